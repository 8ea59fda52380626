import java.math.BigInteger;

/** Terms, TO READ. */
public final class TermReadTest {
    private static final String OF = "Terms, TO READ";
    private static final String FIRST_FOUR = "VALUE (a whole number of any size) is the number of its first four bytes "
            + "(of 0 where there are none)";
    private static final String PLACE = "the place is (VALUE - LOW) / r, cut off, t - 1 at most";
    private static final String NEXT = "With each shift VALUE, too, is 256 times as great, and the next byte (0 where there "
            + "is none) is added.";
    private static final String[] TEXTS = {"a", "\0", "\377", "abracadabra", "aaaaaaaa", "caac", "aabb", "abcac",
        "zyxzzyyxxa"};

    public static void main(String[] args) {
        noByteAtAll();
        oneTwoAndThreeBytes();
        readAnew();
        greatestValueOfAll();
        placeBehindTheWholeInOrderMinusOne();
        placeBehindTheWholeInAnEscape();
        leastValueOfAPart();
        greatestValueOfAPart();
        valuesBesideAPart();
        nextByteIsZeroWhereThereIsNone();
        nextByteIsTaken();
        firstBytesTellTheFirstSymbol();
        Due.end();
    }

    private static void noByteAtAll() {
        Due.sentence(OF, FIRST_FOUR);
        EscapeCoder coder = Make.decoded("", EscapeCoder.BAD, Make.repeat('\0', 4000));
        Make.stepDue("a 0", coder, 0, 0, 1, 257, -1, 0);
        State none = new State(coder);
        Make.push(coder, 0, 0, 0, 0, 0, 0, 0);
        coder.decode();
        new State(coder).sameBut("zeros are as none", none, Make.CODE);
    }

    private static void oneTwoAndThreeBytes() {
        Due.sentence(OF, FIRST_FOUR);
        for (String code : new String[] {"61", "619d", "619de2", "ff", "ff01", "ff00ff"}) {
            EscapeCoder coder = Make.withCode(Make.hex(code));
            Due.same("decode() of " + code, coder.decode(), EscapeCoder.BAD);
            State few = new State(coder);
            while (coder.size(Make.CODE) < 4) {
                coder.push(0);
            }
            coder.decode();
            new State(coder).sameBut(code + ", filled up with zeros", few, Make.CODE);
        }
        EscapeCoder one = Make.withCode(97);
        one.decode();
        Due.same("size(2) of 97", one.size(Make.OUTPUT), 1846);
        Make.countsDue("of 97", one, 2603, 756, 786, 0, 0, 1446, 674383104L, 582);
    }

    private static void readAnew() {
        Due.sentence(OF, "LOW and RANGE as above");
        EscapeCoder coder = Make.decoded("ff00ff0000", 0, "");
        Make.countsDue("read", coder, 1, 0, 1, 0, 0, 0, 4278255360L, 0);
        coder.change(0, 0);
        coder.decode();
        coder.change(0, 255);
        Due.same("decode(), behind another", coder.decode(), 0);
        Make.countsDue("read again", coder, 1, 0, 1, 0, 0, 0, 4278255360L, 0);
    }

    /** 4294967295 / 16711935 is 257, one too many. */
    private static void greatestValueOfAll() {
        Due.sentence(OF, PLACE);
        EscapeCoder coder = Make.decoded("ffffffffff", 0, "");
        Make.stepDue("END", coder, 0, 256, 1, 257, -1, 0);
        Make.countsDue("END", coder, 1, 0, 1, 0, 0, 0, 4278255360L, 0);
    }

    /** The place would be 256 of 256. */
    private static void placeBehindTheWholeInOrderMinusOne() {
        Due.sentence(OF, PLACE);
        EscapeCoder coder = Make.decoded("629d629cffff", 1, "b");
        Make.stepDue("END", coder, 2, 255, 1, 256, -1, 0);
        Make.countsDue("b", coder, 3, 1, 2, 0, 0, 1, 2139160320L, 1);
    }

    /** The place would be 3 of 3 in order 0, 2 of 2 in order 1, 7 of 7 in order 2. */
    private static void placeBehindTheWholeInAnEscape() {
        Due.sentence(OF, PLACE);
        EscapeCoder zero = Make.decoded("634d6a94d68fff", 4, "caac");
        Make.stepDue("order 0", zero, 7, 2, 1, 3, 0, 1);
        Make.countsDue("order 0", zero, 9, 4, 3, 0, 0, 7, 22413312L, 5);
        EscapeCoder one = Make.decoded("60f76ef6c4caff", 4, "aabb");
        Make.stepDue("order 1", one, 5, 1, 1, 2, 1, 1);
        Make.countsDue("order 1", one, 8, 3, 3, 0, 0, 7, 35808000L, 5);
        EscapeCoder two = Make.decoded("60aa00a99fff", 8, "aaaaaaaa");
        Make.stepDue("order 2", two, 8, 6, 1, 7, 2, 1);
        Make.countsDue("order 2", two, 10, 1, 2, 0, 0, 3, 25519360L, 3);
    }

    /** The code is LOW itself. */
    private static void leastValueOfAPart() {
        Due.sentence(OF, PLACE);
        for (String text : TEXTS) {
            EscapeCoder coder = moved(text, BigInteger.ZERO);
            Due.same("decode()", coder.decode(), text.length());
            Make.textDue("least", coder, Make.OUTPUT, text);
        }
    }

    /** LOW and RANGE less 1: the last code of so many bytes that tells the text. */
    private static void greatestValueOfAPart() {
        Due.sentence(OF, PLACE);
        for (String text : TEXTS) {
            BigInteger range = BigInteger.valueOf(Make.encoded(text).count(6));
            EscapeCoder coder = moved(text, range.subtract(BigInteger.ONE));
            Due.same("decode()", coder.decode(), text.length());
            Make.textDue("greatest", coder, Make.OUTPUT, text);
        }
    }

    private static void valuesBesideAPart() {
        Due.sentence(OF, PLACE);
        for (String text : TEXTS) {
            BigInteger range = BigInteger.valueOf(Make.encoded(text).count(6));
            sameAsReference(text, moved(text, BigInteger.valueOf(-1)));
            sameAsReference(text, moved(text, range));
        }
    }

    /** A text's code as a number, with so much added, read. */
    private static EscapeCoder moved(String text, BigInteger by) {
        EscapeCoder written = Make.encoded(text);
        int bytes = written.size(Make.CODE);
        BigInteger number = BigInteger.ZERO;
        for (int i = 0; i < bytes; i++) {
            number = number.shiftLeft(8).add(BigInteger.valueOf(written.at(Make.CODE, i)));
        }
        number = number.add(by);
        EscapeCoder coder = new EscapeCoder();
        for (int i = bytes - 1; i >= 0; i--) {
            coder.push(number.shiftRight(8 * i).intValue() & 255);
        }
        coder.decode();
        return coder;
    }

    private static void sameAsReference(String text, EscapeCoder coder) {
        Reference due = new Reference();
        for (int i = 0; i < coder.size(Make.CODE); i++) {
            due.push(coder.at(Make.CODE, i));
        }
        Due.same("decode() beside " + text, coder.decode(), due.decode());
        Due.same("size(2)", coder.size(Make.OUTPUT), due.size(2));
        StringBuilder output = new StringBuilder();
        for (int i = 0; i < due.size(2); i++) {
            Due.same("at(2, " + i + ")", coder.at(2, i), due.at(2, i));
            output.append((char) due.at(2, i));
        }
        Due.no("another text comes", output.toString().equals(text));
        for (int what = 0; what < 8; what++) {
            Due.same("count(" + what + ")", coder.count(what), due.count(what));
        }
    }

    /** All but the zeros at the end of a code: the same comes, though the size is wrong. */
    private static void nextByteIsZeroWhereThereIsNone() {
        Due.sentence(OF, NEXT);
        EscapeCoder coder = Make.encoded(6, "abcd");
        coder.decode();
        State whole = new State(coder);
        for (int bytes = 8; bytes >= 7; bytes--) {
            coder.keep(bytes);
            Due.same("decode() of " + bytes, coder.decode(), EscapeCoder.BAD);
            new State(coder).sameBut("of " + bytes, whole, Make.CODE);
        }
    }

    /** RANGE is 53615360 in the end: so little a change as in the last three bytes may tell the same. */
    private static void nextByteIsTaken() {
        Due.sentence(OF, NEXT);
        EscapeCoder coder = Make.encoded("abracadabra");
        for (int i = 0; i < 9; i++) {
            int b = coder.at(Make.CODE, i);
            coder.change(i, b ^ 64);
            coder.decode();
            Due.no("the same with byte " + i + " changed", comesBack(coder, "abracadabra"));
            coder.change(i, b);
        }
        Due.same("decode()", coder.decode(), 11);
    }

    private static boolean comesBack(EscapeCoder coder, String text) {
        boolean same = coder.size(Make.OUTPUT) == text.length();
        for (int i = 0; i < text.length(); i++) {
            same &= coder.at(Make.OUTPUT, i) == text.charAt(i);
        }
        return same;
    }

    /** Symbol s has the values from s times 16711935 on. */
    private static void firstBytesTellTheFirstSymbol() {
        Due.sentence(OF, PLACE);
        for (int s = 1; s <= 256; s++) {
            Due.same("the least of " + s, firstPlace(s * 16711935L), s);
            Due.same("the greatest of " + (s - 1), firstPlace(s * 16711935L - 1), s - 1);
        }
    }

    private static int firstPlace(long value) {
        EscapeCoder coder = new EscapeCoder();
        for (int bits = 24; bits >= 0; bits -= 8) {
            coder.push((int) (value >> bits & 255));
        }
        coder.decode();
        return coder.step(0, 0);
    }
}
