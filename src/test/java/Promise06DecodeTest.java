/** Promise 6: the code is read up to END; BAD for a 4001st byte, or a code of another size. */
public final class Promise06DecodeTest {
    public static void main(String[] args) {
        textsComeBack();
        sizeOfTheCodeMatters();
        missingBytesAreZeros();
        placeStaysInTheWhole();
        tooManyBytes();
        textAndCodeStay();
        outputIsMadeAnew();
        codesOfFewBytes();
        Due.end();
    }

    private static void textsComeBack() {
        String all = Make.allBytes();
        String[] texts = {"", "a", "abracadabra", "aaaaaaaaaab", "aab".repeat(90), Make.repeat('z', 300),
            all, all.substring(200) + all.substring(190), "\0\0\0", "\377\377\377\377"};
        for (String text : texts) {
            for (int limit : new int[] {4, 7, 50, 2000}) {
                EscapeCoder coder = new EscapeCoder();
                coder.begin(limit);
                Make.feed(coder, text);
                coder.encode();
                long[] counts = new long[8];
                for (int what = 0; what < 8; what++) {
                    counts[what] = coder.count(what);
                }
                Due.same("decode()", coder.decode(), text.length());
                Make.textDue("output", coder, Make.OUTPUT, text);
                Make.countsDue("the same steps as encode()", coder, counts);
            }
        }
    }

    private static void sizeOfTheCodeMatters() {
        EscapeCoder coder = Make.encoded("abc");
        int codeBytes = coder.size(Make.CODE);
        Due.same("decode()", coder.decode(), 3);
        coder.push(0);
        Due.same("decode(), one byte more", coder.decode(), EscapeCoder.BAD);
        Make.textDue("it has what came", coder, Make.OUTPUT, "abc");
        coder.keep(codeBytes);
        Due.same("decode(), as it was", coder.decode(), 3);
        coder.keep(codeBytes - 1);
        Due.same("the last byte was 0", coder.decode(), EscapeCoder.BAD);
        Make.textDue("it has what came", coder, Make.OUTPUT, "abc");
        Make.stepDue("its steps", coder, 0, 97, 1, 257, -1, 0);
    }

    private static void missingBytesAreZeros() {
        EscapeCoder coder = Make.withCode(255, 0, 255);
        Due.same("decode() of three", coder.decode(), EscapeCoder.BAD);
        Due.same("END came at once", coder.count(0), 1);
        Make.countsDue("END came at once", coder, 1, 0, 1, 0, 0, 0, 4278255360L, 0);
        EscapeCoder one = Make.withCode(97);
        Due.same("decode() of one", one.decode(), EscapeCoder.BAD);
        Due.same("size(2)", one.size(Make.OUTPUT), 1846);
        Make.countsDue("code of one", one, 2603, 756, 786, 0, 0, 1446, 674383104L, 582);
    }

    private static void placeStaysInTheWhole() {
        EscapeCoder coder = Make.withCode(255, 255, 255, 255, 255);
        Due.same("decode() of the greatest", coder.decode(), 0);
        Make.stepDue("END", coder, 0, 256, 1, 257, -1, 0);
        coder.keep(4);
        Due.same("decode() of four", coder.decode(), EscapeCoder.BAD);
        coder.push(255);
        coder.push(255);
        Due.same("decode() of six", coder.decode(), EscapeCoder.BAD);
    }

    private static void tooManyBytes() {
        EscapeCoder coder = new EscapeCoder();
        Due.same("decode() of none", coder.decode(), EscapeCoder.BAD);
        Due.same("size(2)", coder.size(Make.OUTPUT), 4000);
        Due.same("at(2, 3999)", coder.at(Make.OUTPUT, 3999), 0);
        Due.same("at(2, 4000)", coder.at(Make.OUTPUT, 4000), EscapeCoder.BAD);
        Make.countsDue("4001 zeros", coder, 4001, 0, 5, 30, 0, 3, 28478804L, 3);
        Make.stepDue("of the 4001st", coder, 4000, 0, coder.learnt(2, 0, 0, 0), coder.learnt(2, 0, 0, 0) + 1, 2, 0);
        Due.same("step behind", coder.step(4001, 0), -2);
        EscapeCoder nines = Make.withCode(0, 0, 0, 0, 0, 0, 0, 0, 0);
        Due.same("a code of the right size does not help", nines.decode(), EscapeCoder.BAD);
        Due.same("shifts of it", nines.count(2), 5);
    }

    private static void textAndCodeStay() {
        EscapeCoder coder = Make.withText("xyz");
        Make.push(coder, Make.hex("619de21d0100"));
        Due.same("decode()", coder.decode(), 1);
        Make.textDue("text", coder, Make.TEXT, "xyz");
        Make.bytesDue("code", coder, Make.CODE, Make.hex("619de21d0100"));
    }

    private static void outputIsMadeAnew() {
        EscapeCoder coder = Make.encoded("abcdef");
        coder.decode();
        coder.cut(1);
        coder.encode();
        Due.same("decode()", coder.decode(), 1);
        Make.textDue("output", coder, Make.OUTPUT, "a");
        Due.same("of the model before", coder.learnt(0, 0, 0, 'b'), 0);
    }

    /** Codes of one byte tell long, odd texts with every kind of reset, rescaling and escape. */
    private static void codesOfFewBytes() {
        for (int b = 0; b < 256; b += 5) {
            EscapeCoder coder = new EscapeCoder();
            Reference due = new Reference();
            int limit = b % 2 == 0 ? 6000 : 30 * b + 4;
            Due.same("begin", coder.begin(limit) ? 1 : 0, due.begin(limit) ? 1 : 0);
            Due.same("push", coder.push(b) ? 1 : 0, due.push(b) ? 1 : 0);
            Due.same("decode() of " + b, coder.decode(), due.decode());
            Due.same("size(2) of " + b, coder.size(2), due.size(2));
            for (int what = 0; what < 8; what++) {
                Due.same("count(" + what + ") of " + b, coder.count(what), due.count(what));
            }
            for (int i = 0; i < due.size(2); i += 13) {
                Due.same("at(2, " + i + ") of " + b, coder.at(2, i), due.at(2, i));
            }
        }
    }
}
