/** Promise 8, "change". */
public final class Promise08ChangeTest {
    private static final String ANOTHER = "Byte i of the code is another one (0 .. 255).";
    private static final String NONE = "False: none such.";

    public static void main(String[] args) {
        firstAndLastByte();
        leastAndGreatestByte();
        noSuchPlace();
        noSuchByte();
        noneInAnEmptyCode();
        noneWhereBytesWent();
        onlyTheCodeChanges();
        theOtherIsRead();
        Due.end();
    }

    private static void firstAndLastByte() {
        Due.sentence("Promise 8", ANOTHER);
        EscapeCoder coder = Make.withCode(10, 20, 30);
        Due.yes("change(0, 11)", coder.change(0, 11));
        Make.bytesDue("the first", coder, Make.CODE, 11, 20, 30);
        Due.yes("change(2, 33)", coder.change(2, 33));
        Make.bytesDue("the last", coder, Make.CODE, 11, 20, 33);
        Due.yes("change(1, 20), the same", coder.change(1, 20));
        Make.bytesDue("the same", coder, Make.CODE, 11, 20, 33);
    }

    private static void leastAndGreatestByte() {
        Due.sentence("Promise 8", ANOTHER);
        EscapeCoder coder = Make.withCode(10, 20, 30);
        Due.yes("change(0, 0)", coder.change(0, 0));
        Due.yes("change(1, 255)", coder.change(1, 255));
        Make.bytesDue("changed", coder, Make.CODE, 0, 255, 30);
    }

    private static void noSuchPlace() {
        Due.sentence("Promise 8", NONE);
        EscapeCoder coder = Make.withCode(10, 20, 30);
        for (int i : new int[] {-1, -3, 3, 4, 63, 64, 8000, 100000, Integer.MIN_VALUE, Integer.MAX_VALUE}) {
            Due.no("change(" + i + ", 1)", coder.change(i, 1));
            Make.bytesDue("as before", coder, Make.CODE, 10, 20, 30);
        }
    }

    private static void noSuchByte() {
        Due.sentence("Promise 8", NONE);
        EscapeCoder coder = Make.withCode(10, 20, 30);
        for (int b : new int[] {-1, 256, 257, -128, Integer.MIN_VALUE, Integer.MAX_VALUE}) {
            for (int i = 0; i < 3; i++) {
                Due.no("change(" + i + ", " + b + ")", coder.change(i, b));
            }
            Make.bytesDue("as before", coder, Make.CODE, 10, 20, 30);
        }
    }

    private static void noneInAnEmptyCode() {
        Due.sentence("Promise 8", NONE);
        EscapeCoder coder = Make.withText("abc");
        Due.no("change(0, 5)", coder.change(0, 5));
        Due.no("change(-1, 5)", coder.change(-1, 5));
        Make.bytesDue("as before", coder, Make.CODE);
    }

    private static void noneWhereBytesWent() {
        Due.sentence("Promise 8", NONE);
        EscapeCoder coder = Make.withCode(10, 20, 30);
        coder.keep(1);
        Due.no("change(1, 5)", coder.change(1, 5));
        Due.yes("change(0, 5)", coder.change(0, 5));
        Make.bytesDue("changed", coder, Make.CODE, 5);
        coder.begin(4);
        Due.no("change(0, 5) behind begin()", coder.change(0, 5));
    }

    private static void onlyTheCodeChanges() {
        Due.sentence("Promise 8", ANOTHER);
        EscapeCoder coder = Make.encoded("ab");
        coder.decode();
        State before = new State(coder);
        coder.change(0, 77);
        new State(coder).sameBut("behind change", before, Make.CODE);
    }

    private static void theOtherIsRead() {
        Due.sentence("Promise 8", ANOTHER);
        EscapeCoder coder = Make.encoded("a");
        int[] other = Make.hex("ff00ff0000");
        coder.keep(5);
        for (int i = 0; i < other.length; i++) {
            Due.yes("change", coder.change(i, other[i]));
        }
        Due.same("decode()", coder.decode(), 0);
        Make.textDue("the text stays", coder, Make.TEXT, "a");
    }
}
