/** Promise 11: how many bytes the text, the code and the OUTPUT have; BAD for another number. */
public final class Promise11SizeTest {
    public static void main(String[] args) {
        EscapeCoder coder = new EscapeCoder();
        sizesDue("new", coder, 0, 0, 0);
        Make.feed(coder, "abracadabra");
        sizesDue("fed", coder, 11, 0, 0);
        coder.encode();
        sizesDue("encoded", coder, 11, 12, 0);
        coder.decode();
        sizesDue("decoded", coder, 11, 12, 11);
        coder.cut(3);
        sizesDue("cut", coder, 3, 12, 11);
        coder.push(1);
        sizesDue("pushed", coder, 3, 13, 11);
        coder.keep(2);
        sizesDue("kept", coder, 3, 2, 11);
        coder.begin(4);
        sizesDue("begun", coder, 0, 0, 0);
        coder.decode();
        sizesDue("decoded", coder, 0, 0, 4000);
        for (int which : new int[] {-1, 3, 4, Integer.MIN_VALUE, Integer.MAX_VALUE}) {
            Due.same("size(" + which + ")", coder.size(which), EscapeCoder.BAD);
        }
        Due.end();
    }

    private static void sizesDue(String when, EscapeCoder coder, int text, int code, int output) {
        Due.same(when + ": size(0)", coder.size(0), text);
        Due.same(when + ": size(1)", coder.size(1), code);
        Due.same(when + ": size(2)", coder.size(2), output);
    }
}
