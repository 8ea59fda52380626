/** Promise 10, "at". */
public final class Promise10AtTest {
    private static final String BYTE = "Byte i of the text (which = 0), the code (1), the OUTPUT (2).";
    private static final String NONE = "BAD: none such.";

    public static void main(String[] args) {
        bytesOfEach();
        leastAndGreatestByte();
        belowZero();
        behindTheLast();
        ofEmptyRows();
        whereBytesWent();
        ofNoRow();
        Due.end();
    }

    private static EscapeCoder ofThreeRows() {
        EscapeCoder coder = Make.withText("mno");
        Make.push(coder, Make.hex("619de21d0100"));
        coder.decode();
        return coder;
    }

    private static void bytesOfEach() {
        Due.sentence("Promise 10", BYTE);
        EscapeCoder coder = ofThreeRows();
        Make.bytesDue("text", coder, Make.TEXT, 109, 110, 111);
        Make.bytesDue("code", coder, Make.CODE, 97, 157, 226, 29, 1, 0);
        Make.bytesDue("output", coder, Make.OUTPUT, 97);
    }

    private static void leastAndGreatestByte() {
        Due.sentence("Promise 10", BYTE);
        EscapeCoder coder = Make.withText("\377\0");
        Make.bytesDue("text", coder, Make.TEXT, 255, 0);
        coder.encode();
        coder.decode();
        Make.bytesDue("output", coder, Make.OUTPUT, 255, 0);
        Make.bytesDue("code", Make.withCode(255, 0), Make.CODE, 255, 0);
    }

    private static void belowZero() {
        Due.sentence("Promise 10", NONE);
        EscapeCoder coder = ofThreeRows();
        for (int which = 0; which < 3; which++) {
            for (int i : new int[] {-1, -2, -100, Integer.MIN_VALUE}) {
                Due.same("at(" + which + ", " + i + ")", coder.at(which, i), EscapeCoder.BAD);
            }
        }
    }

    private static void behindTheLast() {
        Due.sentence("Promise 10", NONE);
        EscapeCoder coder = ofThreeRows();
        for (int which = 0; which < 3; which++) {
            Due.yes("the last is there", coder.at(which, coder.size(which) - 1) != EscapeCoder.BAD);
            for (int i : new int[] {coder.size(which), 6, 63, 64, 3999, 4000, 7999, 8000, Integer.MAX_VALUE}) {
                Due.same("at(" + which + ", " + i + ")", coder.at(which, i), EscapeCoder.BAD);
            }
        }
    }

    private static void ofEmptyRows() {
        Due.sentence("Promise 10", NONE);
        EscapeCoder coder = new EscapeCoder();
        for (int which = 0; which < 3; which++) {
            Due.same("at(" + which + ", 0)", coder.at(which, 0), EscapeCoder.BAD);
        }
    }

    private static void whereBytesWent() {
        Due.sentence("Promise 10", NONE);
        EscapeCoder coder = ofThreeRows();
        coder.cut(1);
        coder.keep(2);
        Due.same("at(0, 1)", coder.at(Make.TEXT, 1), EscapeCoder.BAD);
        Due.same("at(1, 2)", coder.at(Make.CODE, 2), EscapeCoder.BAD);
        coder.begin(4);
        for (int which = 0; which < 3; which++) {
            Due.same("at(" + which + ", 0)", coder.at(which, 0), EscapeCoder.BAD);
        }
    }

    private static void ofNoRow() {
        Due.sentence("Promise 10", NONE);
        EscapeCoder coder = ofThreeRows();
        for (int which : new int[] {-1, 3, 4, 256, Integer.MIN_VALUE, Integer.MAX_VALUE}) {
            Due.same("at(" + which + ", 0)", coder.at(which, 0), EscapeCoder.BAD);
        }
    }
}
