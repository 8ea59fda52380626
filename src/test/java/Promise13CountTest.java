/** Promise 13: what the latest run took; BAD for another number; 0 before any and behind begin(). */
public final class Promise13CountTest {
    public static void main(String[] args) {
        numbersOfRuns();
        zerosWithoutARun();
        otherNumbers();
        rescaling();
        resets();
        everyRunCountsAnew();
        Due.end();
    }

    private static void numbersOfRuns() {
        Make.countsDue("empty", Make.encoded(""), 1, 0, 1, 0, 0, 0, 4278255360L, 0);
        Make.countsDue("a", Make.encoded("a"), 3, 1, 2, 0, 0, 1, 2139160320L, 1);
        Make.countsDue("abracadabra", Make.encoded("abracadabra"), 21, 9, 8, 0, 0, 19, 53615360L, 13);
        Make.countsDue("aab", Make.encoded("aab".repeat(90)), 274, 3, 7, 0, 0, 8, 3593590784L, 6);
        EscapeCoder coder = Make.withCode(97);
        coder.decode();
        Make.countsDue("code 97", coder, 2603, 756, 786, 0, 0, 1446, 674383104L, 582);
    }

    private static void zerosWithoutARun() {
        EscapeCoder coder = Make.withText("abc");
        Make.countsDue("before any", coder, 0, 0, 0, 0, 0, 0, 0, 0);
        coder.encode();
        coder.begin(100);
        Make.countsDue("behind begin()", coder, 0, 0, 0, 0, 0, 0, 0, 0);
        Make.feed(coder, "abc");
        Make.push(coder, 1);
        coder.keep(0);
        coder.cut(1);
        Make.countsDue("no run since", coder, 0, 0, 0, 0, 0, 0, 0, 0);
    }

    private static void otherNumbers() {
        EscapeCoder coder = Make.encoded("abc");
        for (int what : new int[] {-1, -2, 8, 9, 100, Integer.MIN_VALUE, Integer.MAX_VALUE}) {
            Due.same("count(" + what + ")", coder.count(what), EscapeCoder.BAD);
            Due.same("count(" + what + ") of a new one", new EscapeCoder().count(what), EscapeCoder.BAD);
        }
    }

    /** Behind three bytes, order 2 alone learns: its count is 255 with 257 bytes, 129 with one more. */
    private static void rescaling() {
        EscapeCoder coder = Make.encoded(Make.repeat('a', 257));
        Due.same("count before it", coder.learnt(2, 'a', 'a', 'a'), 255);
        Due.same("rescalings before it", coder.count(3), 0);
        coder.feed('a');
        coder.encode();
        Due.same("count behind it", coder.learnt(2, 'a', 'a', 'a'), 129);
        Due.same("rescalings behind it", coder.count(3), 1);
        coder.feed('a');
        coder.encode();
        Due.same("count later", coder.learnt(2, 'a', 'a', 'a'), 130);
        Due.same("rescalings later", coder.count(3), 1);
        othersAreRoundedUp();
    }

    private static void othersAreRoundedUp() {
        EscapeCoder coder = Make.encoded("aabaacaacaac" + Make.repeat('a', 270));
        Due.same("rescalings", coder.count(3), 1);
        Due.same("1 stays 1", coder.learnt(2, 'a', 'a', 'b'), 1);
        Due.same("3 is 2", coder.learnt(2, 'a', 'a', 'c'), 2);
        Due.same("other contexts stay", coder.learnt(2, 'c', 'a', 'a'), 3);
        Make.countsDue("rescaling", coder, 288, 5, 12, 1, 0, 15, 77165056L, 9);
    }

    private static void resets() {
        EscapeCoder coder = new EscapeCoder();
        coder.begin(4);
        Make.feed(coder, "\1\2\3\4\1");
        Due.same("encode()", coder.encode(), 10);
        Make.countsDue("limit 4", coder, 9, 3, 6, 0, 2, 0, 532742144L, 0);
        coder.feed(9);
        coder.encode();
        Make.countsDue("limit 4, one more", coder, 11, 4, 7, 0, 2, 3, coder.count(6), 3);
        Due.same("the bytes before still count", coder.learnt(2, 1, 4, 9), 1);
    }

    private static void everyRunCountsAnew() {
        EscapeCoder coder = Make.encoded(Make.repeat('a', 300));
        Make.countsDue("300", coder, 302, 1, 4, 1, 0, 3, 1200884992L, 3);
        coder.decode();
        Make.countsDue("300 again", coder, 302, 1, 4, 1, 0, 3, 1200884992L, 3);
        coder.cut(1);
        coder.encode();
        Make.countsDue("a", coder, 3, 1, 2, 0, 0, 1, 2139160320L, 1);
    }
}
