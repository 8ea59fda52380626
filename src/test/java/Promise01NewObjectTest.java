/** Promise 1: an empty text, an empty code, a limit of 2000. */
public final class Promise01NewObjectTest {
    public static void main(String[] args) {
        allIsEmpty();
        encodesTheEmptyText();
        limitIsTwoThousand();
        objectsDoNotShare();
        Due.end();
    }

    private static void allIsEmpty() {
        EscapeCoder coder = new EscapeCoder();
        for (int which = 0; which < 3; which++) {
            Make.bytesDue("new", coder, which);
        }
        Make.countsDue("new", coder, 0, 0, 0, 0, 0, 0, 0, 0);
        Due.same("step(0, 0)", coder.step(0, 0), -2);
        Due.same("learnt(0, 0, 0, 0)", coder.learnt(0, 0, 0, 0), 0);
        Due.same("node(0, 0, 0, 0)", coder.node(0, 0, 0, 0), EscapeCoder.BAD);
        Due.same("BAD", EscapeCoder.BAD, -1);
    }

    private static void encodesTheEmptyText() {
        EscapeCoder coder = new EscapeCoder();
        Due.same("encode()", coder.encode(), 5);
        Make.bytesDue("empty text", coder, Make.CODE, 255, 0, 255, 0, 0);
    }

    /** What the code 13 tells learns its nodes so that 1999, 2000 and 2001 all answer otherwise. */
    private static void limitIsTwoThousand() {
        EscapeCoder coder = Make.withCode(13);
        Due.same("decode()", coder.decode(), EscapeCoder.BAD);
        Make.countsDue("limit of a new object", coder, 5638, 1797, 1794, 1, 1, 1400, 497724672L, 596);
        for (int limit : new int[] {1999, 2000, 2001}) {
            EscapeCoder other = new EscapeCoder();
            other.begin(limit);
            other.push(13);
            other.decode();
            boolean alike = other.count(5) == coder.count(5) && other.count(6) == coder.count(6);
            Due.same("as with begin(" + limit + ")", alike ? 1 : 0, limit == 2000 ? 1 : 0);
        }
    }

    private static void objectsDoNotShare() {
        EscapeCoder one = Make.encoded("ab");
        EscapeCoder other = new EscapeCoder();
        Due.same("size of another's text", other.size(Make.TEXT), 0);
        Due.same("another's model", other.learnt(0, 0, 0, 'a'), 0);
        Due.same("size of the one's text", one.size(Make.TEXT), 2);
        Due.same("the one's model", one.learnt(0, 0, 0, 'a'), 1);
    }
}
