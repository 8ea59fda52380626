/** Promise 6, "decode". */
public final class Promise06DecodeTest {
    private static final String UP_TO_END = "read by a model that is empty at first, up to END: what comes is the OUTPUT";
    private static final String TOO_MANY = "a byte would be the 4001st (its steps count, the model does not learn it)";
    private static final String NOT_JUST = "or the code has not just 4 bytes and one for each shift that was made";
    private static final String ALL_A = "609f609f0001b4db5fa400";
    private static final String ALL_A_AND_B = "609f609f0001b370164a200a00";

    public static void main(String[] args) {
        textsComeBack();
        nothingBehindEnd();
        modelIsEmptyAtFirst();
        outputOfBeforeGoes();
        textAndCodeStay();
        fourThousandBytes();
        theNextIsTooMany();
        itsStepsCount();
        modelDoesNotLearnIt();
        itMakesNoReset();
        sizeOfTheCodeDoesNotHelp();
        oneByteMore();
        oneByteLess();
        fewerThanFour();
        codesOfFewBytes();
        Due.end();
    }

    private static void textsComeBack() {
        Due.sentence("Promise 6", UP_TO_END);
        String all = Make.allBytes();
        String[] texts = {"", "a", "abracadabra", "aaaaaaaaaab", "aab".repeat(90), Make.repeat('z', 300),
            all, all.substring(200) + all.substring(190), "\0\0\0", "\377\377\377\377"};
        for (String text : texts) {
            for (int limit : new int[] {4, 7, 50, 2000}) {
                comesBack(text, limit);
            }
        }
    }

    private static void comesBack(String text, int limit) {
        EscapeCoder coder = Make.encoded(limit, text);
        State written = new State(coder);
        Due.same("decode()", coder.decode(), text.length());
        Make.textDue("output", coder, Make.OUTPUT, text);
        new State(coder).sameBut("the same steps as encode()", written, Make.OUTPUT);
    }

    /** The bytes behind END's are not told. */
    private static void nothingBehindEnd() {
        Due.sentence("Promise 6", UP_TO_END);
        EscapeCoder coder = Make.encoded("");
        Make.push(coder, 97, 98, 99, 100, 101, 102);
        Due.same("decode()", coder.decode(), EscapeCoder.BAD);
        Make.bytesDue("END came first", coder, Make.OUTPUT);
        Make.countsDue("END came first", coder, 1, 0, 1, 0, 0, 0, 4278255360L, 0);
    }

    private static void modelIsEmptyAtFirst() {
        Due.sentence("Promise 6", UP_TO_END);
        EscapeCoder coder = Make.encoded("abcdef");
        Due.same("decode()", coder.decode(), 6);
        State first = new State(coder);
        Due.same("decode() again", coder.decode(), 6);
        new State(coder).sameAs("decode() again", first);
    }

    private static void outputOfBeforeGoes() {
        Due.sentence("Promise 6", "what comes is the OUTPUT");
        EscapeCoder coder = Make.encoded("abcdef");
        coder.decode();
        coder.cut(1);
        coder.encode();
        Due.same("decode()", coder.decode(), 1);
        Make.textDue("output", coder, Make.OUTPUT, "a");
        Due.same("of the model before", coder.learnt(0, 0, 0, 'b'), 0);
    }

    private static void textAndCodeStay() {
        Due.sentence("Promise 6", UP_TO_END);
        EscapeCoder coder = Make.withText("xyz");
        Make.push(coder, Make.hex("619de21d0100"));
        State before = new State(coder);
        Due.same("decode()", coder.decode(), 1);
        new State(coder).sameBut("behind decode()", before, Make.OUTPUT, 3);
    }

    private static void fourThousandBytes() {
        Due.sentence("Promise 6", "How many bytes it has");
        EscapeCoder coder = Make.decoded(ALL_A, 4000, Make.repeat('a', 4000));
        Make.countsDue("4000 and END", coder, 4002, 1, 7, 30, 0, 3, 38820864L, 3);
    }

    private static void theNextIsTooMany() {
        Due.sentence("Promise 6", "BAD, and it has what came up to then: a byte would be the 4001st");
        Make.decoded("609f609f0001b28b0a2c00", EscapeCoder.BAD, Make.repeat('a', 4000));
        Make.decoded(ALL_A_AND_B, EscapeCoder.BAD, Make.repeat('a', 4000));
        Make.decoded("614f30ce9f000001a7276862268d00", EscapeCoder.BAD, "ab".repeat(2000));
        Make.decoded("", EscapeCoder.BAD, Make.repeat('\0', 4000));
    }

    private static void itsStepsCount() {
        Due.sentence("Promise 6", TOO_MANY);
        EscapeCoder coder = Make.decoded(ALL_A_AND_B, EscapeCoder.BAD, Make.repeat('a', 4000));
        Make.countsDue("b's two steps", coder, 4002, 1, 7, 30, 0, 3, 38820864L, 3);
        Make.stepDue("b's escape", coder, 4000, 188, 1, 189, 2, 1);
        Make.stepDue("b", coder, 4001, 97, 1, 256, -1, 0);
        Due.same("no END", coder.step(4002, 0), -2);
        EscapeCoder third = Make.decoded("614f30ce9f000001a7276862268d00", EscapeCoder.BAD, "ab".repeat(2000));
        Make.countsDue("c's three steps", third, 4004, 3, 10, 28, 0, 6, 4120911872L, 5);
        EscapeCoder zeros = Make.decoded("", EscapeCoder.BAD, Make.repeat('\0', 4000));
        Make.countsDue("a step of one more 0", zeros, 4001, 0, 5, 30, 0, 3, 28478804L, 3);
        Make.stepDue("a step of one more 0", zeros, 4000, 0, 188, 189, 2, 0);
    }

    private static void modelDoesNotLearnIt() {
        Due.sentence("Promise 6", TOO_MANY);
        EscapeCoder coder = Make.decoded(ALL_A_AND_B, EscapeCoder.BAD, Make.repeat('a', 4000));
        Due.same("b", coder.learnt(0, 0, 0, 'b'), 0);
        Due.same("b behind a", coder.learnt(1, 'a', 0, 'b'), 0);
        Due.same("b behind aa", coder.learnt(2, 'a', 'a', 'b'), 0);
        EscapeCoder zeros = Make.decoded("", EscapeCoder.BAD, Make.repeat('\0', 4000));
        Due.same("the count stays", zeros.learnt(2, 0, 0, 0), 188);
    }

    private static void itMakesNoReset() {
        Due.sentence("Promise 6", TOO_MANY);
        EscapeCoder coder = new EscapeCoder();
        coder.begin(4);
        Make.push(coder, Make.hex("609f609f0001b37014e90000"));
        Due.same("decode()", coder.decode(), EscapeCoder.BAD);
        Make.countsDue("three nodes, and no more", coder, 4002, 1, 7, 30, 0, 3, 38820864L, 3);
    }

    /** Nine bytes are 4 and one for each of the five shifts. */
    private static void sizeOfTheCodeDoesNotHelp() {
        Due.sentence("Promise 6", "BAD, and it has what came up to then: a byte would be the 4001st");
        EscapeCoder coder = Make.withCode(0, 0, 0, 0, 0, 0, 0, 0, 0);
        Due.same("decode()", coder.decode(), EscapeCoder.BAD);
        Due.same("shifts", coder.count(2), 5);
    }

    private static void oneByteMore() {
        Due.sentence("Promise 6", NOT_JUST);
        EscapeCoder coder = Make.encoded("abc");
        int codeBytes = coder.size(Make.CODE);
        coder.push(0);
        Due.same("decode(), one byte more", coder.decode(), EscapeCoder.BAD);
        Make.textDue("it has what came", coder, Make.OUTPUT, "abc");
        coder.keep(codeBytes);
        Due.same("decode(), as it was", coder.decode(), 3);
        Make.push(coder, 1, 2, 3, 4);
        Due.same("decode(), four more", coder.decode(), EscapeCoder.BAD);
        Make.textDue("it has what came", coder, Make.OUTPUT, "abc");
        Make.decoded("ffffffffffff", EscapeCoder.BAD, "");
    }

    /** The last byte is 0, so that what comes is the same without it. */
    private static void oneByteLess() {
        Due.sentence("Promise 6", NOT_JUST);
        EscapeCoder coder = Make.encoded("abc");
        Due.yes("keep, all but the last", coder.keep(coder.size(Make.CODE) - 1));
        Due.same("decode(), one byte less", coder.decode(), EscapeCoder.BAD);
        Make.textDue("it has what came", coder, Make.OUTPUT, "abc");
        Due.same("its model", coder.learnt(2, 'b', 'a', 'c'), 1);
        Make.decoded("ffffffff", EscapeCoder.BAD, "");
        Make.decoded("ffffffffff", 0, "");
    }

    private static void fewerThanFour() {
        Due.sentence("Promise 6", NOT_JUST);
        EscapeCoder coder = Make.decoded("ff00ff", EscapeCoder.BAD, "");
        Make.countsDue("END came at once", coder, 1, 0, 1, 0, 0, 0, 4278255360L, 0);
        Make.decoded("ffff", EscapeCoder.BAD, "");
        Make.decoded("ff01", EscapeCoder.BAD, "");
    }

    /** Codes of one byte tell long, odd texts with every kind of reset, rescaling and escape. */
    private static void codesOfFewBytes() {
        Due.sentence("Promise 6", UP_TO_END);
        for (int b = 0; b < 256; b += 5) {
            EscapeCoder coder = new EscapeCoder();
            Reference due = new Reference();
            int limit = b % 2 == 0 ? 6000 : 30 * b + 4;
            Due.same("begin", coder.begin(limit) ? 1 : 0, due.begin(limit) ? 1 : 0);
            Due.same("push", coder.push(b) ? 1 : 0, due.push(b) ? 1 : 0);
            Due.same("decode() of " + b, coder.decode(), due.decode());
            Due.same("size(2) of " + b, coder.size(2), due.size(2));
            for (int what = 0; what < 8; what++) {
                Due.same("count(" + what + ") of " + b, coder.count(what), due.count(what));
            }
            for (int i = 0; i < due.size(2); i += 13) {
                Due.same("at(2, " + i + ") of " + b, coder.at(2, i), due.at(2, i));
            }
        }
    }
}
