/** Terms, TO TELL. */
public final class TermTellTest {
    private static final String OF = "Terms, TO TELL";
    private static final String DOWN = "with k bytes before it: from order 2 (k, if that is less) down";
    private static final String PASSED = "If there are none, the order is passed over.";
    private static final String AMONG = "if the symbol is among them, its part begins at the sum of the counts of those "
            + "before it, and is its count; it is told";
    private static final String ESCAPE = "Else the part is an ESCAPE: it begins at T and is Q; their bytes are OUT then, "
            + "and the next order comes.";
    private static final String PLAIN = "a step (order -1) of as many as there are symbols 0 .. 256 that are not OUT, "
            + "its part being 1, beginning at how many of them are less";

    public static void main(String[] args) {
        fromTheGreatestOrderDown();
        outBytesDoNotCount();
        noneAreOutAtFirst();
        emptyContextIsPassedOver();
        contextWithAllOutIsPassedOver();
        wholeIsCountsAndNodes();
        firstOfThem();
        oneInTheMiddle();
        lastOfThem();
        partIsItsCount();
        outOnesBeforeItDoNotCount();
        escapeOfOne();
        escapeOfMore();
        endEscapesFromAll();
        nothingOut();
        outOnesAboveDoNotMatter();
        outOnesBelowDo();
        allBytesOut();
        readInTheSameWay();
        Due.end();
    }

    /** Each a is told one order higher, until order 2. */
    private static void fromTheGreatestOrderDown() {
        Due.sentence(OF, DOWN);
        EscapeCoder coder = Make.encoded("aaaaa");
        Make.stepDue("k = 0", coder, 0, 97, 1, 257, -1, 0);
        Make.stepDue("k = 1", coder, 1, 0, 1, 2, 0, 0);
        Make.stepDue("k = 2", coder, 2, 0, 1, 2, 1, 0);
        Make.stepDue("k = 3", coder, 3, 0, 1, 2, 2, 0);
        Make.stepDue("k = 4", coder, 4, 0, 2, 3, 2, 0);
    }

    /** The second c of "abcac": b escaped from order 1, so order 0 has a twice and c. */
    private static void outBytesDoNotCount() {
        Due.sentence(OF, "those nodes of the context at hand count whose bytes are not OUT");
        EscapeCoder coder = Make.encoded("abcac");
        Make.stepDue("order 1", coder, 6, 1, 1, 2, 1, 1);
        Make.stepDue("order 0 without b", coder, 7, 2, 1, 5, 0, 0);
    }

    /** a was out when b was told; for the next a it is not. */
    private static void noneAreOutAtFirst() {
        Due.sentence(OF, "(none are at first)");
        EscapeCoder coder = Make.encoded("aba");
        Make.stepDue("a goes out", coder, 1, 1, 1, 2, 0, 1);
        Make.stepDue("a is in again", coder, 3, 0, 1, 4, 0, 0);
    }

    private static void emptyContextIsPassedOver() {
        Due.sentence(OF, PASSED);
        EscapeCoder coder = Make.encoded("abca");
        Make.countsDue("abca", coder, 9, 4);
        Make.stepDue("a: orders 2, 1 have none", coder, 5, 0, 1, 6, 0, 0);
        Make.countsDue("no order has any", Make.encoded(""), 1, 0);
    }

    /** Behind "aaa", END escapes from order 2; then all of orders 1 and 0 are out. */
    private static void contextWithAllOutIsPassedOver() {
        Due.sentence(OF, PASSED);
        EscapeCoder coder = Make.encoded("aaa");
        Make.countsDue("aaa", coder, 5, 1);
        Make.stepDue("END escapes once", coder, 3, 1, 1, 2, 2, 1);
        Make.stepDue("END", coder, 4, 255, 1, 256, -1, 0);
    }

    private static void wholeIsCountsAndNodes() {
        Due.sentence(OF, "Else T is the sum of their counts, Q how many they are; a STEP is made of the whole T + Q");
        Make.stepDue("1 + 1, the least", Make.encoded("aa"), 1, 0, 1, 2, 0, 0);
        Make.stepDue("2 and 1, 1, 1 + 4", Make.encoded("abracadabra"), 9, 0, 2, 9, 0, 0);
        Make.stepDue("255 + 1", Make.encoded(Make.repeat('a', 258)), 257, 0, 255, 256, 2, 0);
        Make.stepDue("256 + 256, all bytes", Make.encoded(Make.allBytes() + "\0"), 511, 0, 1, 512, 0, 0);
    }

    private static void firstOfThem() {
        Due.sentence(OF, AMONG);
        Make.stepDue("a of a, b, c", Make.encoded("abca"), 5, 0, 1, 6, 0, 0);
    }

    private static void oneInTheMiddle() {
        Due.sentence(OF, AMONG);
        Make.stepDue("b of a, b, c", Make.encoded("abcb"), 5, 1, 1, 6, 0, 0);
    }

    private static void lastOfThem() {
        Due.sentence(OF, AMONG);
        Make.stepDue("c of a, b, c", Make.encoded("abcc"), 5, 2, 1, 6, 0, 0);
    }

    private static void partIsItsCount() {
        Due.sentence(OF, AMONG);
        EscapeCoder coder = Make.encoded("abracadabra");
        Make.stepDue("a, twice there", coder, 9, 0, 2, 9, 0, 0);
        Make.stepDue("a, three times there", coder, 13, 0, 3, 12, 0, 0);
        EscapeCoder much = Make.encoded(Make.repeat('a', 258));
        Make.stepDue("a, 254 times there", much, 256, 0, 254, 255, 2, 0);
        Make.stepDue("a, 255 times there", much, 257, 0, 255, 256, 2, 0);
    }

    private static void outOnesBeforeItDoNotCount() {
        Due.sentence(OF, AMONG);
        Make.stepDue("c behind a and the out b", Make.encoded("abcac"), 7, 2, 1, 5, 0, 0);
    }

    private static void escapeOfOne() {
        Due.sentence(OF, ESCAPE);
        EscapeCoder coder = Make.encoded("aaaaaaaaaab");
        Make.stepDue("b escapes from a, 8 times there", coder, 10, 8, 1, 9, 2, 1);
        Make.stepDue("b with a out", coder, 11, 97, 1, 256, -1, 0);
    }

    private static void escapeOfMore() {
        Due.sentence(OF, ESCAPE);
        EscapeCoder coder = Make.encoded("abracadabra");
        Make.stepDue("of a, b", coder, 3, 2, 2, 4, 0, 1);
        Make.stepDue("of order 1", coder, 10, 2, 2, 4, 1, 1);
        Make.stepDue("of what order 0 has more", coder, 11, 4, 2, 6, 0, 1);
        Make.stepDue("with a, b, c, r out", coder, 12, 97, 1, 253, -1, 0);
    }

    private static void endEscapesFromAll() {
        Due.sentence(OF, ESCAPE);
        EscapeCoder coder = Make.encoded("abracadabra");
        Make.stepDue("order 2", coder, 17, 1, 1, 2, 2, 1);
        Make.stepDue("order 1", coder, 18, 3, 2, 5, 1, 1);
        Make.stepDue("order 0", coder, 19, 5, 2, 7, 0, 1);
        Make.stepDue("END", coder, 20, 251, 1, 252, -1, 0);
    }

    private static void nothingOut() {
        Due.sentence(OF, PLAIN);
        Make.stepDue("0", Make.encoded("\0"), 0, 0, 1, 257, -1, 0);
        Make.stepDue("1", Make.encoded("\1"), 0, 1, 1, 257, -1, 0);
        Make.stepDue("255", Make.encoded("\377"), 0, 255, 1, 257, -1, 0);
        Make.stepDue("END", Make.encoded(""), 0, 256, 1, 257, -1, 0);
    }

    private static void outOnesAboveDoNotMatter() {
        Due.sentence(OF, PLAIN);
        Make.stepDue("a with m out", Make.encoded("ma"), 2, 97, 1, 256, -1, 0);
        Make.stepDue("0 with 255 out", Make.encoded("\377\0"), 2, 0, 1, 256, -1, 0);
    }

    private static void outOnesBelowDo() {
        Due.sentence(OF, PLAIN);
        Make.stepDue("z with m out", Make.encoded("mz"), 2, 121, 1, 256, -1, 0);
        Make.stepDue("255 with 0 out", Make.encoded("\0\377"), 2, 254, 1, 256, -1, 0);
        Make.stepDue("END with two out", Make.encoded("mz"), 4, 254, 1, 255, -1, 0);
    }

    private static void allBytesOut() {
        Due.sentence(OF, PLAIN);
        EscapeCoder coder = Make.encoded(Make.allBytes());
        Make.stepDue("END's escape", coder, 511, 256, 256, 512, 0, 1);
        Make.stepDue("END alone", coder, 512, 0, 1, 1, -1, 0);
    }

    private static void readInTheSameWay() {
        Due.sentence("Terms, TO READ", "that tells the part, and the symbol or the escape");
        String[] texts = {"", "aaaaa", "abcac", "aba", "abca", "abcb", "abcc", "\377\0", "\0\377", Make.allBytes()};
        for (String text : texts) {
            EscapeCoder coder = Make.encoded(text);
            State written = new State(coder);
            Due.same("decode()", coder.decode(), text.length());
            new State(coder).sameBut("read", written, Make.OUTPUT);
        }
    }
}
