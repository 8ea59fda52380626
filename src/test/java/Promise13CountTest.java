/** Promise 13, "count". */
public final class Promise13CountTest {
    private static final String OF = "Of the latest encode() or decode(): 0 steps, 1 escapes, 2 shifts, 3 RESCALINGS, "
            + "4 RESETS, 5 nodes, 6 RANGE in the end (of 0 to 32 bits), 7 contexts that have nodes.";

    public static void main(String[] args) {
        numbersOfEncode();
        numbersOfDecode();
        rescalings();
        resets();
        contextsThatHaveNodes();
        rangeOfThirtyTwoBits();
        onlyTheLatestRun();
        anotherNumber();
        beforeAny();
        behindBegin();
        Due.end();
    }

    private static void numbersOfEncode() {
        Due.sentence("Promise 13", OF);
        Make.countsDue("empty", Make.encoded(""), 1, 0, 1, 0, 0, 0, 4278255360L, 0);
        Make.countsDue("a", Make.encoded("a"), 3, 1, 2, 0, 0, 1, 2139160320L, 1);
        Make.countsDue("abracadabra", Make.encoded("abracadabra"), 21, 9, 8, 0, 0, 19, 53615360L, 13);
        Make.countsDue("aab", Make.encoded("aab".repeat(90)), 274, 3, 7, 0, 0, 8, 3593590784L, 6);
    }

    private static void numbersOfDecode() {
        Due.sentence("Promise 13", OF);
        EscapeCoder coder = Make.withCode(97);
        coder.decode();
        Make.countsDue("code 97", coder, 2603, 756, 786, 0, 0, 1446, 674383104L, 582);
    }

    private static void rescalings() {
        Due.sentence("Promise 13", "3 RESCALINGS");
        Make.countsDue("257", Make.encoded(Make.repeat('a', 257)), 259, 1, 4, 0, 0, 3, 1073710080L, 3);
        Make.countsDue("258", Make.encoded(Make.repeat('a', 258)), 260, 1, 4, 1, 0, 3, 2106144000L, 3);
        EscapeCoder coder = new EscapeCoder();
        coder.decode();
        Due.same("of 4000 zeros", coder.count(3), 30);
    }

    private static void resets() {
        Due.sentence("Promise 13", "4 RESETS");
        EscapeCoder coder = Make.encoded(4, "\1\2\3\4\1");
        Make.countsDue("limit 4", coder, 9, 3, 6, 0, 2, 0, 532742144L, 0);
        coder.decode();
        Make.countsDue("limit 4, read", coder, 9, 3, 6, 0, 2, 0, 532742144L, 0);
        coder.feed(9);
        coder.encode();
        Make.countsDue("limit 4, one more", coder, 11, 4, 7, 0, 2, 3, coder.count(6), 3);
    }

    private static void contextsThatHaveNodes() {
        Due.sentence("Promise 13", "7 contexts that have nodes");
        Due.same("of END alone", Make.encoded("").count(7), 0);
        Due.same("order 0", Make.encoded("a").count(7), 1);
        Due.same("orders 0, 1", Make.encoded("aa").count(7), 2);
        Due.same("orders 0, 1, 2", Make.encoded("aaa").count(7), 3);
        Due.same("no new one", Make.encoded("aaaa").count(7), 3);
        Due.same("all went", Make.encoded(4, "abc").count(7), 0);
        Due.same("some came since", Make.encoded(4, "abcd").count(7), 3);
    }

    private static void rangeOfThirtyTwoBits() {
        Due.sentence("Promise 13", "6 RANGE in the end (of 0 to 32 bits)");
        Due.same("32 bits", Make.encoded("").count(6), 4278255360L);
        Due.same("25 bits, the least", Make.encoded(6, "decbcbbdde").count(6), 16777216L);
        EscapeCoder coder = new EscapeCoder();
        Due.same("none", coder.count(6), 0);
        coder.decode();
        Due.same("without END", coder.count(6), 28478804L);
    }

    private static void onlyTheLatestRun() {
        Due.sentence("Promise 13", "Of the latest encode() or decode()");
        EscapeCoder coder = Make.encoded(Make.repeat('a', 300));
        Make.countsDue("300", coder, 302, 1, 4, 1, 0, 3, 1200884992L, 3);
        coder.decode();
        Make.countsDue("300 again", coder, 302, 1, 4, 1, 0, 3, 1200884992L, 3);
        coder.cut(1);
        Make.push(coder, 1);
        Make.countsDue("no run since", coder, 302, 1, 4, 1, 0, 3, 1200884992L, 3);
        coder.encode();
        Make.countsDue("a", coder, 3, 1, 2, 0, 0, 1, 2139160320L, 1);
        EscapeCoder small = Make.encoded(4, "abc");
        Due.same("resets", small.count(4), 1);
        small.cut(2);
        small.encode();
        Due.same("resets of the latest", small.count(4), 0);
    }

    private static void anotherNumber() {
        Due.sentence("Promise 13", "BAD: another number");
        EscapeCoder coder = Make.encoded("abc");
        for (int what : new int[] {-1, -2, 8, 9, 100, 256, Integer.MIN_VALUE, Integer.MAX_VALUE}) {
            Due.same("count(" + what + ")", coder.count(what), EscapeCoder.BAD);
            Due.same("count(" + what + ") of a new one", new EscapeCoder().count(what), EscapeCoder.BAD);
        }
    }

    private static void beforeAny() {
        Due.sentence("Promise 13", "before any, and behind begin(), all are 0 (RANGE too)");
        EscapeCoder coder = Make.withText("abc");
        Make.push(coder, 1, 2);
        coder.change(0, 9);
        coder.keep(1);
        coder.cut(1);
        Make.countsDue("before any", coder, 0, 0, 0, 0, 0, 0, 0, 0);
    }

    private static void behindBegin() {
        Due.sentence("Promise 13", "before any, and behind begin(), all are 0 (RANGE too)");
        EscapeCoder coder = Make.encoded(4, "abcd" + Make.repeat('a', 300));
        Due.yes("a reset, a rescaling", coder.count(3) > 0 && coder.count(4) > 0);
        coder.begin(100);
        Make.countsDue("behind begin()", coder, 0, 0, 0, 0, 0, 0, 0, 0);
        Make.feed(coder, "abc");
        Make.push(coder, 1);
        Make.countsDue("no run since", coder, 0, 0, 0, 0, 0, 0, 0, 0);
        coder.begin(3);
        Make.countsDue("nor by a refused one", coder, 0, 0, 0, 0, 0, 0, 0, 0);
    }
}
