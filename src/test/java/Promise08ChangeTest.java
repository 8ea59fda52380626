/** Promise 8: byte i of the code is another one; false if there is no such byte, or the new one is none. */
public final class Promise08ChangeTest {
    public static void main(String[] args) {
        EscapeCoder coder = Make.withCode(10, 20, 30);
        Due.yes("change(0, 0)", coder.change(0, 0));
        Due.yes("change(2, 255)", coder.change(2, 255));
        Due.yes("change(1, 20), the same", coder.change(1, 20));
        Make.bytesDue("changed", coder, Make.CODE, 0, 20, 255);
        for (int i : new int[] {-1, 3, 4, 100000, Integer.MIN_VALUE, Integer.MAX_VALUE}) {
            Due.no("change(" + i + ", 1)", coder.change(i, 1));
        }
        for (int b : new int[] {-1, 256, Integer.MIN_VALUE, Integer.MAX_VALUE}) {
            Due.no("change(1, " + b + ")", coder.change(1, b));
        }
        Make.bytesDue("wrong changes", coder, Make.CODE, 0, 20, 255);
        coder.keep(1);
        Due.no("change(1, 5) of what went", coder.change(1, 5));
        Due.no("change(0, 5) of none", new EscapeCoder().change(0, 5));
        decodesTheOther();
        Due.end();
    }

    private static void decodesTheOther() {
        EscapeCoder coder = Make.encoded("a");
        int[] other = Make.hex("ff00ff0000");
        coder.keep(5);
        for (int i = 0; i < other.length; i++) {
            Due.yes("change", coder.change(i, other[i]));
        }
        Make.countsDue("no run yet", coder, 3, 1, 2, 0, 0, 1, 2139160320L, 1);
        Due.same("decode()", coder.decode(), 0);
        Make.textDue("the text stays", coder, Make.TEXT, "a");
    }
}
