/** Terms, LEARN with RESCALING and RESET. */
public final class TermLearnTest {
    private static final String OF = "Terms, LEARN";
    private static final String ORDERS = "from the greatest order (2, or k) down to the order in which it was told "
            + "(0, if that was -1)";
    private static final String RESCALING = "but before that, if its count is 255, all counts of the context are halved, "
            + "rounded up (a RESCALING)";
    private static final String FULL = "but if there are as many nodes as the limit, all nodes of the model go (a RESET), "
            + "and nothing more is learnt of this byte";

    public static void main(String[] args) {
        endIsNotLearnt();
        firstByteHasOrderZeroAlone();
        toldPlainly();
        toldInOrderZero();
        toldInOrderOne();
        toldInOrderTwo();
        newNodeComesBehind();
        noRescalingBelow255();
        rescalingAt255();
        halvesAreRoundedUp();
        otherContextsStay();
        rescalingInOrderOne();
        rescalingInOrderZero();
        justAsManyAsTheLimit();
        fullModelStillCounts();
        resetInOrderTwo();
        resetInOrderOne();
        resetInOrderZero();
        bytesBeforeStayBehindAReset();
        Due.end();
    }

    private static void learntDue(EscapeCoder coder, int two, int one, int zero) {
        Due.same("a behind aa", coder.learnt(2, 'a', 'a', 'a'), two);
        Due.same("a behind a", coder.learnt(1, 'a', 0, 'a'), one);
        Due.same("a", coder.learnt(0, 0, 0, 'a'), zero);
    }

    private static void endIsNotLearnt() {
        Due.sentence(OF, "Then, if it was a byte, contexts LEARN it");
        EscapeCoder none = Make.encoded("");
        Make.countsDue("END alone", none, 1, 0, 1, 0, 0, 0, 4278255360L, 0);
        Due.same("node 0", none.node(0, 0, 0, 0), EscapeCoder.BAD);
        EscapeCoder coder = Make.encoded("a");
        Due.same("nodes", coder.count(5), 1);
        Due.same("END", coder.learnt(0, 0, 0, 256), 0);
        Due.same("END behind a", coder.node(1, 'a', 0, 0), EscapeCoder.BAD);
        EscapeCoder full = Make.encoded(6, "abc");
        Due.same("END makes no reset", full.count(4), 0);
    }

    private static void firstByteHasOrderZeroAlone() {
        Due.sentence(OF, ORDERS);
        learntDue(Make.encoded("a"), 0, 0, 1);
        EscapeCoder again = Make.encoded("aaaa");
        again.cut(1);
        again.encode();
        Due.same("nodes, in a second run", again.count(5), 1);
    }

    private static void toldPlainly() {
        Due.sentence(OF, ORDERS);
        EscapeCoder coder = Make.encoded("abc");
        Due.same("c behind ab", coder.learnt(2, 'b', 'a', 'c'), 1);
        Due.same("c behind b", coder.learnt(1, 'b', 0, 'c'), 1);
        Due.same("c", coder.learnt(0, 0, 0, 'c'), 1);
    }

    private static void toldInOrderZero() {
        Due.sentence(OF, ORDERS);
        learntDue(Make.encoded("aa"), 0, 1, 2);
        EscapeCoder coder = Make.encoded("abca");
        Due.same("a behind bc", coder.learnt(2, 'c', 'b', 'a'), 1);
        Due.same("a behind c", coder.learnt(1, 'c', 0, 'a'), 1);
        Due.same("a", coder.learnt(0, 0, 0, 'a'), 2);
    }

    private static void toldInOrderOne() {
        Due.sentence(OF, ORDERS);
        learntDue(Make.encoded("aaa"), 1, 2, 2);
    }

    private static void toldInOrderTwo() {
        Due.sentence(OF, ORDERS);
        learntDue(Make.encoded("aaaa"), 2, 2, 2);
        learntDue(Make.encoded("aaaaa"), 3, 2, 2);
    }

    private static void newNodeComesBehind() {
        Due.sentence(OF, "If there is no such node, it comes behind the others, with 1");
        EscapeCoder coder = Make.encoded("aabaacaacaad");
        char[] behind = {'b', 'c', 'd'};
        int[] counts = {1, 2, 1};
        for (int i = 0; i < 3; i++) {
            Due.same("node " + i, coder.node(2, 'a', 'a', i), behind[i]);
            Due.same("its count", coder.learnt(2, 'a', 'a', behind[i]), counts[i]);
        }
        Due.same("node 3", coder.node(2, 'a', 'a', 3), EscapeCoder.BAD);
    }

    private static void noRescalingBelow255() {
        Due.sentence(OF, RESCALING);
        EscapeCoder coder = Make.encoded(Make.repeat('a', 256));
        learntDue(coder, 254, 2, 2);
        Due.same("rescalings", coder.count(3), 0);
        coder.feed('a');
        coder.encode();
        learntDue(coder, 255, 2, 2);
        Due.same("rescalings", coder.count(3), 0);
    }

    /** 255 is halved to 128, and has one more then. */
    private static void rescalingAt255() {
        Due.sentence(OF, RESCALING);
        EscapeCoder coder = Make.encoded(Make.repeat('a', 258));
        learntDue(coder, 129, 2, 2);
        Due.same("rescalings", coder.count(3), 1);
        coder.feed('a');
        coder.encode();
        learntDue(coder, 130, 2, 2);
        Due.same("rescalings", coder.count(3), 1);
        EscapeCoder twice = Make.encoded(Make.repeat('a', 257 + 127));
        learntDue(twice, 255, 2, 2);
        Due.same("rescalings", twice.count(3), 1);
        twice.feed('a');
        twice.encode();
        learntDue(twice, 129, 2, 2);
        Due.same("rescalings", twice.count(3), 2);
    }

    private static void halvesAreRoundedUp() {
        Due.sentence(OF, RESCALING);
        EscapeCoder coder = Make.encoded("aabaacaacaacaadaad" + Make.repeat('a', 270));
        Make.countsDue("one rescaling", coder, 296, 7, 16, 1, 0, 21, 17294336L, 12);
        Due.same("1 stays 1", coder.learnt(2, 'a', 'a', 'b'), 1);
        Due.same("3 is 2", coder.learnt(2, 'a', 'a', 'c'), 2);
        Due.same("2 is 1", coder.learnt(2, 'a', 'a', 'd'), 1);
        Due.same("255 is 128, and 13 more", coder.learnt(2, 'a', 'a', 'a'), 141);
    }

    private static void otherContextsStay() {
        Due.sentence(OF, "all counts of the context are halved");
        EscapeCoder coder = Make.encoded("aabaacaacaacaadaad" + Make.repeat('a', 270));
        Due.same("a behind ac", coder.learnt(2, 'c', 'a', 'a'), 3);
        Due.same("a behind a", coder.learnt(1, 'a', 0, 'a'), 5);
        Due.same("a", coder.learnt(0, 0, 0, 'a'), 5);
    }

    /** Each "ba" stands behind another byte, so that a is always told in order 1. */
    private static void rescalingInOrderOne() {
        Due.sentence(OF, RESCALING);
        StringBuilder text = new StringBuilder();
        for (char x = 0; x < 256; x++) {
            text.append(x).append("ba");
        }
        EscapeCoder before = read(6000, text.substring(0, 765));
        Due.same("a behind b", before.learnt(1, 'b', 0, 'a'), 255);
        Due.same("rescalings", before.count(3), 0);
        EscapeCoder behind = read(6000, text.toString());
        Due.same("a behind b", behind.learnt(1, 'b', 0, 'a'), 129);
        Due.same("b behind b", behind.learnt(1, 'b', 0, 'b'), 1);
        Due.same("rescalings, b's in order 0 too", behind.count(3), 2);
    }

    /** Each a stands behind another byte, so that it is always told in order 0. */
    private static void rescalingInOrderZero() {
        Due.sentence(OF, RESCALING);
        StringBuilder text = new StringBuilder("a");
        for (char x = 0; x < 256; x++) {
            text.append(x == 'a' ? "" : x + "a");
        }
        EscapeCoder before = read(2000, text.substring(0, 509));
        Due.same("a", before.learnt(0, 0, 0, 'a'), 255);
        Make.countsDue("before", before, 1019, 509, 504, 0, 0, 1270, 420445184L, 763);
        EscapeCoder behind = read(2000, text.toString());
        Due.same("a", behind.learnt(0, 0, 0, 'a'), 129);
        Due.same("0", behind.learnt(0, 0, 0, 0), 1);
        Make.countsDue("behind", behind, 1023, 511, 505, 1, 0, 1275, 137829888L, 766);
    }

    /** By its code, which the Reference makes: that has fewer bytes than the text. */
    private static EscapeCoder read(int limit, String text) {
        Reference reference = new Reference();
        reference.begin(limit);
        text.chars().forEach(reference::feed);
        EscapeCoder coder = new EscapeCoder();
        coder.begin(limit);
        int bytes = reference.encode();
        for (int i = 0; i < bytes; i++) {
            coder.push(reference.at(1, i));
        }
        Due.same("decode()", coder.decode(), text.length());
        return coder;
    }

    private static void justAsManyAsTheLimit() {
        Due.sentence(OF, FULL);
        Make.countsDue("6 of 6", Make.encoded(6, "abab"), 8, 3, 3, 0, 0, 6, 67173888L, 5);
        Make.countsDue("6 of 5", Make.encoded(5, "abab"), 6, 1, 3, 0, 1, 0, 266395648L, 0);
    }

    /** In "ababab", the last two bytes have their nodes already. */
    private static void fullModelStillCounts() {
        Due.sentence(OF, "the byte's node in the context has one more");
        EscapeCoder coder = Make.encoded(6, "ababab");
        Make.countsDue("no reset", coder, 10, 3, 4, 0, 0, 6, 2863376896L, 5);
        Due.same("a behind ab", coder.learnt(2, 'b', 'a', 'a'), 2);
        Due.same("b behind ba", coder.learnt(2, 'a', 'b', 'b'), 2);
    }

    /** "abc" has six nodes; d's first would be the seventh. */
    private static void resetInOrderTwo() {
        Due.sentence(OF, FULL);
        EscapeCoder coder = Make.encoded(6, "abcd");
        Make.countsDue("reset", coder, 8, 3, 5, 0, 1, 0, 539033600L, 0);
        nothingIsLearnt(coder, 'd', 'c', 'b');
    }

    /** c behind ab is the fourth node, and goes with the others. */
    private static void resetInOrderOne() {
        Due.sentence(OF, FULL);
        EscapeCoder coder = Make.encoded(4, "abc");
        Make.countsDue("reset", coder, 6, 2, 4, 0, 1, 0, 1069613056L, 0);
        nothingIsLearnt(coder, 'c', 'b', 'a');
    }

    private static void resetInOrderZero() {
        Due.sentence(OF, FULL);
        EscapeCoder coder = Make.encoded(5, "abc");
        Make.countsDue("reset", coder, 6, 2, 4, 0, 1, 0, 1069613056L, 0);
        nothingIsLearnt(coder, 'c', 'b', 'a');
    }

    private static void nothingIsLearnt(EscapeCoder coder, int b, int before, int earlier) {
        Due.same("order 2", coder.learnt(2, before, earlier, b), 0);
        Due.same("order 1", coder.learnt(1, before, 0, b), 0);
        Due.same("order 0", coder.learnt(0, 0, 0, b), 0);
        Due.same("a", coder.learnt(0, 0, 0, 'a'), 0);
        Due.same("b behind a", coder.learnt(1, 'a', 0, 'b'), 0);
        Due.same("node 0", coder.node(0, 0, 0, 0), EscapeCoder.BAD);
    }

    private static void bytesBeforeStayBehindAReset() {
        Due.sentence(OF, "all nodes of the model go (a RESET)");
        EscapeCoder coder = Make.encoded(4, "abcd");
        Make.countsDue("d is learnt", coder, 8, 3, 5, 0, 1, 3, 534789888L, 3);
        Make.stepDue("d, by an empty model", coder, 5, 100, 1, 257, -1, 0);
        Due.same("d behind bc", coder.learnt(2, 'c', 'b', 'd'), 1);
        Due.same("d behind c", coder.learnt(1, 'c', 0, 'd'), 1);
        Due.same("d", coder.learnt(0, 0, 0, 'd'), 1);
    }
}
