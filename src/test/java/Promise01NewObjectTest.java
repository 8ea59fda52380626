/** Promise 1, "A new object". */
public final class Promise01NewObjectTest {
    public static void main(String[] args) {
        emptyText();
        emptyCode();
        nothingElseIsThere();
        twoThousandNodesStay();
        oneNodeMoreDoesNot();
        objectsDoNotShare();
        Due.end();
    }

    private static void emptyText() {
        Due.sentence("Promise 1", "An empty text");
        EscapeCoder coder = new EscapeCoder();
        Make.bytesDue("new", coder, Make.TEXT);
        Due.no("cut(1)", coder.cut(1));
        Due.same("encode()", coder.encode(), 5);
        Make.bytesDue("code of the empty text", coder, Make.CODE, 255, 0, 255, 0, 0);
    }

    private static void emptyCode() {
        Due.sentence("Promise 1", "an empty code");
        EscapeCoder coder = new EscapeCoder();
        Make.bytesDue("new", coder, Make.CODE);
        Due.no("keep(1)", coder.keep(1));
        Due.no("change(0, 0)", coder.change(0, 0));
        Due.same("decode()", coder.decode(), EscapeCoder.BAD);
        Due.same("bytes of 0 that come", coder.size(Make.OUTPUT), 4000);
    }

    private static void nothingElseIsThere() {
        Due.sentence("Promise 13", "before any, and behind begin(), all are 0 (RANGE too)");
        EscapeCoder coder = new EscapeCoder();
        Make.bytesDue("new", coder, Make.OUTPUT);
        Make.countsDue("new", coder, 0, 0, 0, 0, 0, 0, 0, 0);
        Due.same("step(0, 0)", coder.step(0, 0), -2);
        Due.same("learnt(0, 0, 0, 0)", coder.learnt(0, 0, 0, 0), 0);
        Due.same("node(0, 0, 0, 0)", coder.node(0, 0, 0, 0), EscapeCoder.BAD);
        Due.same("BAD", EscapeCoder.BAD, -1);
    }

    /** What the code 119, 35 tells has just 2000 nodes in the end; a lower limit would meet a reset. */
    private static void twoThousandNodesStay() {
        Due.sentence("Promise 1", "a limit of 2000");
        EscapeCoder coder = Make.withCode(119, 35);
        Due.same("decode()", coder.decode(), EscapeCoder.BAD);
        Due.same("size(2)", coder.size(Make.OUTPUT), 2297);
        Make.countsDue("2000 nodes", coder, 3337, 1039, 1108, 0, 0, 2000, 446879488L, 830);
    }

    /** What the code 188, 24 tells has, with its last byte, need of a node 2001. */
    private static void oneNodeMoreDoesNot() {
        Due.sentence("Promise 1", "a limit of 2000");
        EscapeCoder coder = Make.withCode(188, 24);
        Due.same("decode()", coder.decode(), EscapeCoder.BAD);
        Due.same("size(2)", coder.size(Make.OUTPUT), 2337);
        Make.countsDue("2001 nodes", coder, 3466, 1128, 1148, 0, 1, 0, 90046464L, 0);
        EscapeCoder more = new EscapeCoder();
        more.begin(2001);
        Make.push(more, 188, 24);
        more.decode();
        Make.countsDue("2001 nodes, begin(2001)", more, 3468, 1130, 1148, 0, 0, 2001, 19935353L, 750);
    }

    private static void objectsDoNotShare() {
        Due.sentence("Promise 1", "An empty text, an empty code, a limit of 2000.");
        EscapeCoder one = Make.encoded(4, "ab");
        EscapeCoder other = new EscapeCoder();
        Due.same("size of another's text", other.size(Make.TEXT), 0);
        Due.same("size of another's code", other.size(Make.CODE), 0);
        Due.same("another's model", other.learnt(0, 0, 0, 'a'), 0);
        Make.feed(other, "abc");
        other.encode();
        Due.same("resets by another's limit", other.count(4), 0);
        Due.same("size of the one's text", one.size(Make.TEXT), 2);
        Due.same("the one's model", one.learnt(0, 0, 0, 'c'), 0);
    }
}
