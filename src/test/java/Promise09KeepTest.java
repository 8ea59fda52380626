/** Promise 9, "keep". */
public final class Promise09KeepTest {
    private static final String STAY = "The code's first n bytes stay alone.";

    public static void main(String[] args) {
        firstBytesStay();
        noneStay();
        allStay();
        belowZero();
        itHasFewer();
        whatWentIsGone();
        whatWentIsNotRead();
        onlyTheCodeChanges();
        Due.end();
    }

    private static void firstBytesStay() {
        Due.sentence("Promise 9", STAY);
        EscapeCoder coder = Make.withCode(1, 2, 3, 4);
        Due.yes("keep(3)", coder.keep(3));
        Make.bytesDue("keep(3)", coder, Make.CODE, 1, 2, 3);
        Due.yes("keep(1)", coder.keep(1));
        Make.bytesDue("keep(1)", coder, Make.CODE, 1);
    }

    private static void noneStay() {
        Due.sentence("Promise 9", STAY);
        EscapeCoder coder = Make.withCode(1, 2, 3, 4);
        Due.yes("keep(0)", coder.keep(0));
        Make.bytesDue("keep(0)", coder, Make.CODE);
        Due.yes("keep(0) of none", coder.keep(0));
    }

    private static void allStay() {
        Due.sentence("Promise 9", STAY);
        EscapeCoder coder = Make.withCode(1, 2, 3, 4);
        Due.yes("keep(4)", coder.keep(4));
        Make.bytesDue("keep(4)", coder, Make.CODE, 1, 2, 3, 4);
    }

    private static void belowZero() {
        Due.sentence("Promise 9", "False: n is below 0");
        EscapeCoder coder = Make.withCode(1, 2, 3, 4);
        for (int n : new int[] {-1, -2, -4, Integer.MIN_VALUE}) {
            Due.no("keep(" + n + ")", coder.keep(n));
            Make.bytesDue("keep(" + n + ")", coder, Make.CODE, 1, 2, 3, 4);
        }
        Due.no("keep(-1) of none", new EscapeCoder().keep(-1));
    }

    private static void itHasFewer() {
        Due.sentence("Promise 9", "or it has fewer");
        EscapeCoder coder = Make.withCode(1, 2, 3, 4);
        Make.feed(coder, "abcdefgh");
        for (int n : new int[] {5, 6, 8, 64, 8000, 8001, Integer.MAX_VALUE}) {
            Due.no("keep(" + n + ")", coder.keep(n));
            Make.bytesDue("keep(" + n + ")", coder, Make.CODE, 1, 2, 3, 4);
        }
        Due.no("keep(1) of none", new EscapeCoder().keep(1));
    }

    private static void whatWentIsGone() {
        Due.sentence("Promise 9", STAY);
        EscapeCoder coder = Make.withCode(1, 2, 3, 4);
        coder.keep(2);
        Due.no("keep(3) of two", coder.keep(3));
        Make.push(coder, 9);
        Make.bytesDue("pushed behind", coder, Make.CODE, 1, 2, 9);
    }

    private static void whatWentIsNotRead() {
        Due.sentence("Promise 9", STAY);
        EscapeCoder coder = Make.withCode(0, 0, 0, 0, 200, 200, 200);
        coder.keep(3);
        coder.decode();
        Due.same("size(2), as of zeros", coder.size(Make.OUTPUT), 4000);
        Make.countsDue("as of zeros", coder, 4001, 0, 5, 30, 0, 3, 28478804L, 3);
    }

    private static void onlyTheCodeChanges() {
        Due.sentence("Promise 9", STAY);
        EscapeCoder coder = Make.encoded("abcde");
        coder.decode();
        State before = new State(coder);
        coder.keep(1);
        new State(coder).sameBut("behind keep(1)", before, Make.CODE);
    }
}
