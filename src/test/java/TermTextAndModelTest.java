/** Terms, THE TEXT and THE MODEL. */
public final class TermTextAndModelTest {
    private static final String ROW = "CONTEXTS of orders 0, 1, 2: for the row of as many bytes as came just before";

    public static void main(String[] args) {
        fourThousandAtMost();
        endComesBehind();
        endComesBehindAllOtherBytes();
        contextOfNoByte();
        contextOfOneByte();
        contextOfTwoBytes();
        countFromOneOn();
        asManyNodesAsTheLimit();
        Due.end();
    }

    /** So many calls are more than the document promises; the number is the document's all the same. */
    private static void fourThousandAtMost() {
        Due.sentence("Terms, THE TEXT", "THE TEXT has bytes, 4000 at most");
        EscapeCoder coder = Make.withText(Make.repeat('a', 4000));
        Due.no("feed, the 4001st", coder.feed('a'));
        Due.same("encode()", coder.encode(), 11);
        Make.bytesDue("code of 4000", coder, Make.CODE, Make.hex("609f609f0001b4db5fa400"));
        Due.same("decode()", coder.decode(), 4000);
    }

    private static void endComesBehind() {
        Due.sentence("Terms, THE TEXT", "behind it comes END (256)");
        Make.stepDue("of an empty text", Make.encoded(""), 0, 256, 1, 257, -1, 0);
        Make.stepDue("of one byte", Make.encoded("a"), 2, 255, 1, 256, -1, 0);
        Make.stepDue("of the greatest byte", Make.encoded("\377"), 2, 255, 1, 256, -1, 0);
        Make.stepDue("of the least byte", Make.encoded("\0"), 2, 255, 1, 256, -1, 0);
    }

    private static void endComesBehindAllOtherBytes() {
        Due.sentence("Terms, THE TEXT", "behind it comes END (256)");
        EscapeCoder coder = Make.encoded(Make.allBytes());
        Make.countsDue("all bytes", coder, 513, 256, 243, 0, 0, 765, 268150886L, 510);
        Make.stepDue("END", coder, 512, 0, 1, 1, -1, 0);
        Due.same("decode()", coder.decode(), 256);
    }

    private static void contextOfNoByte() {
        Due.sentence("Terms, THE MODEL", ROW);
        EscapeCoder coder = Make.encoded("a");
        Due.same("order 0", coder.learnt(0, 0, 0, 'a'), 1);
        Due.same("nodes: the first byte has none before", coder.count(5), 1);
        Due.same("contexts", coder.count(7), 1);
        Due.same("no order 1", coder.node(1, 0, 0, 0), EscapeCoder.BAD);
        Due.same("no order 2", coder.node(2, 0, 0, 0), EscapeCoder.BAD);
    }

    private static void contextOfOneByte() {
        Due.sentence("Terms, THE MODEL", ROW);
        EscapeCoder coder = Make.encoded("ab");
        Due.same("b behind a", coder.learnt(1, 'a', 0, 'b'), 1);
        Due.same("b", coder.learnt(0, 0, 0, 'b'), 1);
        Due.same("nodes: the second byte has one before", coder.count(5), 3);
        Due.same("contexts", coder.count(7), 2);
        Due.same("no order 2", coder.node(2, 'a', 0, 0), EscapeCoder.BAD);
    }

    private static void contextOfTwoBytes() {
        Due.sentence("Terms, THE MODEL", ROW);
        EscapeCoder coder = Make.encoded("abcd");
        Due.same("c behind ab", coder.learnt(2, 'b', 'a', 'c'), 1);
        Due.same("d behind bc", coder.learnt(2, 'c', 'b', 'd'), 1);
        Due.same("d behind c", coder.learnt(1, 'c', 0, 'd'), 1);
        Due.same("not turned round", coder.learnt(2, 'b', 'c', 'd'), 0);
        Due.same("nodes", coder.count(5), 9);
        Due.same("contexts", coder.count(7), 6);
    }

    private static void countFromOneOn() {
        Due.sentence("Terms, THE MODEL", "a byte, a COUNT from 1 on");
        EscapeCoder coder = Make.encoded("abc");
        for (char b : new char[] {'a', 'b', 'c'}) {
            Due.same("order 0", coder.learnt(0, 0, 0, b), 1);
        }
        Due.same("order 1", coder.learnt(1, 'a', 0, 'b'), 1);
        Due.same("order 2", coder.learnt(2, 'b', 'a', 'c'), 1);
    }

    private static void asManyNodesAsTheLimit() {
        Due.sentence("Terms, THE MODEL", "There are as many nodes in all as the LIMIT tells, at most.");
        Make.countsDue("just 6", Make.encoded(6, "abc"), 7, 3, 4, 0, 0, 6, 541155840L, 4);
        for (int limit = 4; limit < 40; limit++) {
            for (int length = 0; length < 60; length++) {
                EscapeCoder coder = Make.encoded(limit, Make.noise(60).substring(60 - length));
                Due.yes("nodes with the limit " + limit, coder.count(5) <= limit);
            }
        }
    }
}
