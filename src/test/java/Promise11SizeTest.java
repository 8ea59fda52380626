/** Promise 11, "size". */
public final class Promise11SizeTest {
    private static final String HOW_MANY = "How many bytes the text (0), the code (1), the OUTPUT (2) have.";

    public static void main(String[] args) {
        nothingAndBehindEachCall();
        greatestOutput();
        anotherNumber();
        Due.end();
    }

    private static void nothingAndBehindEachCall() {
        Due.sentence("Promise 11", HOW_MANY);
        EscapeCoder coder = new EscapeCoder();
        sizesDue("new", coder, 0, 0, 0);
        Make.feed(coder, "abracadabra");
        sizesDue("fed", coder, 11, 0, 0);
        coder.encode();
        sizesDue("encoded", coder, 11, 12, 0);
        coder.decode();
        sizesDue("decoded", coder, 11, 12, 11);
        coder.cut(3);
        sizesDue("cut", coder, 3, 12, 11);
        coder.push(1);
        sizesDue("pushed", coder, 3, 13, 11);
        coder.keep(2);
        sizesDue("kept", coder, 3, 2, 11);
        coder.begin(4);
        sizesDue("begun", coder, 0, 0, 0);
    }

    private static void greatestOutput() {
        Due.sentence("Promise 11", HOW_MANY);
        EscapeCoder coder = new EscapeCoder();
        coder.decode();
        sizesDue("decoded", coder, 0, 0, 4000);
    }

    private static void anotherNumber() {
        Due.sentence("Promise 11", "BAD: another number.");
        EscapeCoder coder = Make.encoded("abc");
        coder.decode();
        for (int which : new int[] {-1, 3, 4, 256, Integer.MIN_VALUE, Integer.MAX_VALUE}) {
            Due.same("size(" + which + ")", coder.size(which), EscapeCoder.BAD);
            Due.same("size(" + which + ") of a new one", new EscapeCoder().size(which), EscapeCoder.BAD);
        }
    }

    private static void sizesDue(String when, EscapeCoder coder, int text, int code, int output) {
        Due.same(when + ": size(0)", coder.size(0), text);
        Due.same(when + ": size(1)", coder.size(1), code);
        Due.same(when + ": size(2)", coder.size(2), output);
    }
}
