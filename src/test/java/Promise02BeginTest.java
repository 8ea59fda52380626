/** Promise 2, "begin". */
public final class Promise02BeginTest {
    private static final String EMPTY = "Text, code, OUTPUT, model and steps are empty";
    private static final String LIMIT = "the limit is so many (4 .. 6000)";
    private static final String REFUSED = "False, and nothing changes: not such.";

    public static void main(String[] args) {
        textCodeAndOutputAreEmptied();
        modelIsEmptied();
        stepsAreEmptied();
        countsAreEmptied();
        leastAndGreatestLimitAreTaken();
        limitsBelowAndAboveAreNot();
        leastLimitIsObeyed();
        limitsBetweenAreObeyed();
        greatestLimitIsObeyed();
        latestLimitIsTheOne();
        refusedLimitChangesNothing();
        refusedLimitLeavesTheLimit();
        Due.end();
    }

    private static EscapeCoder used() {
        EscapeCoder coder = Make.encoded("abcabc");
        coder.decode();
        return coder;
    }

    private static void textCodeAndOutputAreEmptied() {
        Due.sentence("Promise 2", EMPTY);
        EscapeCoder coder = used();
        Due.yes("begin(9)", coder.begin(9));
        for (int which = 0; which < 3; which++) {
            Make.bytesDue("begun", coder, which);
        }
        Due.same("encode() of the empty text", coder.encode(), 5);
    }

    private static void modelIsEmptied() {
        Due.sentence("Promise 2", EMPTY);
        EscapeCoder coder = used();
        coder.begin(2000);
        for (int b = 0; b < 256; b++) {
            Due.same("learnt, order 0", coder.learnt(0, 0, 0, b), 0);
            Due.same("learnt, order 1", coder.learnt(1, 'a', 0, b), 0);
            Due.same("learnt, order 2", coder.learnt(2, 'b', 'a', b), 0);
        }
        Due.same("node, order 0", coder.node(0, 0, 0, 0), EscapeCoder.BAD);
        Due.same("node, order 1", coder.node(1, 'a', 0, 0), EscapeCoder.BAD);
        Due.same("node, order 2", coder.node(2, 'b', 'a', 0), EscapeCoder.BAD);
    }

    private static void stepsAreEmptied() {
        Due.sentence("Promise 2", EMPTY);
        EscapeCoder coder = used();
        coder.begin(2000);
        for (int i = 0; i < 20; i++) {
            Due.same("step(" + i + ", 2)", coder.step(i, 2), -2);
        }
    }

    private static void countsAreEmptied() {
        Due.sentence("Promise 13", "before any, and behind begin(), all are 0 (RANGE too)");
        EscapeCoder small = Make.encoded(4, "\1\2\3\4\1");
        Due.same("resets", small.count(4), 2);
        small.begin(4);
        Make.countsDue("behind begin(4)", small, 0, 0, 0, 0, 0, 0, 0, 0);
        EscapeCoder scaled = Make.encoded(Make.repeat('a', 300));
        Due.same("rescalings", scaled.count(3), 1);
        scaled.begin(2000);
        Make.countsDue("behind begin(2000)", scaled, 0, 0, 0, 0, 0, 0, 0, 0);
    }

    private static void leastAndGreatestLimitAreTaken() {
        Due.sentence("Promise 2", LIMIT);
        EscapeCoder coder = new EscapeCoder();
        for (int limit : new int[] {4, 5, 1999, 2000, 2001, 5999, 6000}) {
            Due.yes("begin(" + limit + ")", coder.begin(limit));
        }
    }

    private static void limitsBelowAndAboveAreNot() {
        Due.sentence("Promise 2", REFUSED);
        EscapeCoder coder = new EscapeCoder();
        int[] wrong = {3, 2, 1, 0, -1, -4, -6000, 6001, 60000, 65540, Integer.MAX_VALUE, Integer.MIN_VALUE};
        for (int limit : wrong) {
            Due.no("begin(" + limit + ")", coder.begin(limit));
        }
    }

    /** "abc" wants node 4 in order 2, node 5 in order 1, where the limit of 4 is met. */
    private static void leastLimitIsObeyed() {
        Due.sentence("Promise 2", LIMIT);
        EscapeCoder three = Make.encoded(4, "ab");
        Make.countsDue("three nodes", three, 5, 2, 3, 0, 0, 3, 1073806848L, 2);
        EscapeCoder coder = Make.encoded(4, "abc");
        Make.countsDue("more than four", coder, 6, 2, 4, 0, 1, 0, 1069613056L, 0);
        EscapeCoder four = Make.encoded(4, "\0\0\2\0\0\0\1\1\1");
        Make.countsDue("just four", four, 13, 3, 7, 0, 3, 4, 66103040L, 4);
    }

    private static void limitsBetweenAreObeyed() {
        Due.sentence("Promise 2", LIMIT);
        int[] limits = {4, 5, 6, 10, 11};
        int[] resets = {2, 2, 1, 1, 0};
        int[] nodes = {0, 0, 3, 0, 11};
        for (int i = 0; i < limits.length; i++) {
            EscapeCoder coder = Make.encoded(limits[i], "\1\2\3\4\1");
            Due.same("resets with the limit " + limits[i], coder.count(4), resets[i]);
            Due.same("nodes with the limit " + limits[i], coder.count(5), nodes[i]);
            Due.same("decode() with the limit " + limits[i], coder.decode(), 5);
            Due.same("resets of decode() with the limit " + limits[i], coder.count(4), resets[i]);
        }
    }

    /** So many calls are more than the document promises; the number is the document's all the same. */
    private static void greatestLimitIsObeyed() {
        Due.sentence("Promise 2", LIMIT);
        EscapeCoder coder = Make.encoded(6000, Make.noise(2904));
        Due.same("nodes, just as many as the limit", coder.count(5), 6000);
        Due.same("resets", coder.count(4), 0);
        Make.feed(coder, Make.noise(2905).substring(2904));
        coder.encode();
        Due.same("nodes behind the reset", coder.count(5), 0);
        Due.same("resets", coder.count(4), 1);
        EscapeCoder less = Make.encoded(5999, Make.noise(2904));
        Due.same("resets with one less", less.count(4), 1);
    }

    private static void latestLimitIsTheOne() {
        Due.sentence("Promise 2", LIMIT);
        EscapeCoder coder = new EscapeCoder();
        coder.begin(4);
        coder.begin(11);
        Make.feed(coder, "\1\2\3\4\1");
        coder.encode();
        Due.same("resets with 11", coder.count(4), 0);
        coder.begin(10);
        Make.feed(coder, "\1\2\3\4\1");
        coder.encode();
        Due.same("resets with 10", coder.count(4), 1);
    }

    private static void refusedLimitChangesNothing() {
        Due.sentence("Promise 2", REFUSED);
        EscapeCoder coder = used();
        coder.feed('x');
        coder.push(9);
        State before = new State(coder);
        for (int limit : new int[] {3, 6001, 0, -1, Integer.MAX_VALUE, Integer.MIN_VALUE}) {
            Due.no("begin(" + limit + ")", coder.begin(limit));
            new State(coder).sameAs("behind begin(" + limit + ")", before);
        }
    }

    private static void refusedLimitLeavesTheLimit() {
        Due.sentence("Promise 2", REFUSED);
        EscapeCoder small = new EscapeCoder();
        small.begin(4);
        small.begin(3);
        small.begin(6001);
        Make.feed(small, "\1\2\3\4\1");
        small.encode();
        Due.same("resets by the limit of 4", small.count(4), 2);
        EscapeCoder coder = new EscapeCoder();
        coder.begin(3);
        coder.begin(6001);
        Make.push(coder, 119, 35);
        coder.decode();
        Due.same("nodes by the limit of 2000", coder.count(5), 2000);
    }
}
