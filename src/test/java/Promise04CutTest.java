/** Promise 4, "cut". */
public final class Promise04CutTest {
    private static final String STAY = "The text's first n bytes stay alone.";

    public static void main(String[] args) {
        firstBytesStay();
        noneStay();
        allStay();
        belowZero();
        itHasFewer();
        whatWentIsGone();
        onlyTheTextChanges();
        Due.end();
    }

    private static void firstBytesStay() {
        Due.sentence("Promise 4", STAY);
        EscapeCoder coder = Make.withText("abcde");
        Due.yes("cut(4)", coder.cut(4));
        Make.textDue("cut(4)", coder, Make.TEXT, "abcd");
        Due.yes("cut(1)", coder.cut(1));
        Make.textDue("cut(1)", coder, Make.TEXT, "a");
    }

    private static void noneStay() {
        Due.sentence("Promise 4", STAY);
        EscapeCoder coder = Make.withText("abcde");
        Due.yes("cut(0)", coder.cut(0));
        Make.textDue("cut(0)", coder, Make.TEXT, "");
        Due.yes("cut(0) of none", coder.cut(0));
        Due.same("encode()", coder.encode(), 5);
    }

    private static void allStay() {
        Due.sentence("Promise 4", STAY);
        EscapeCoder coder = Make.withText("abcde");
        Due.yes("cut(5)", coder.cut(5));
        Make.textDue("cut(5)", coder, Make.TEXT, "abcde");
    }

    private static void belowZero() {
        Due.sentence("Promise 4", "False: n is below 0");
        EscapeCoder coder = Make.withText("abcde");
        for (int n : new int[] {-1, -2, -5, Integer.MIN_VALUE}) {
            Due.no("cut(" + n + ")", coder.cut(n));
            Make.textDue("cut(" + n + ")", coder, Make.TEXT, "abcde");
        }
        Due.no("cut(-1) of none", new EscapeCoder().cut(-1));
    }

    private static void itHasFewer() {
        Due.sentence("Promise 4", "or it has fewer");
        EscapeCoder coder = Make.withText("abcde");
        for (int n : new int[] {6, 7, 4000, 4001, Integer.MAX_VALUE}) {
            Due.no("cut(" + n + ")", coder.cut(n));
            Make.textDue("cut(" + n + ")", coder, Make.TEXT, "abcde");
        }
        Due.no("cut(1) of none", new EscapeCoder().cut(1));
    }

    private static void whatWentIsGone() {
        Due.sentence("Promise 4", STAY);
        EscapeCoder coder = Make.withText("abcde");
        coder.cut(2);
        Due.no("cut(3) of two", coder.cut(3));
        Make.feed(coder, "x");
        Make.textDue("fed behind the cut", coder, Make.TEXT, "abx");
    }

    private static void onlyTheTextChanges() {
        Due.sentence("Promise 4", STAY);
        EscapeCoder coder = Make.encoded("abcde");
        coder.decode();
        State before = new State(coder);
        coder.cut(1);
        new State(coder).sameBut("behind cut(1)", before, Make.TEXT);
    }
}
