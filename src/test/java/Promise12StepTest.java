/** Promise 12, "step". The first 20000 are looked at in BeyondReachTest. */
public final class Promise12StepTest {
    private static final String WHAT = "what = 0 where its part begins, 1 what it is, 2 the whole, 3 the order (-1 .. 2), "
            + "4 whether it was an escape (1 or 0)";
    private static final String NONE = "-2: none such.";
    private static final int[][] ABRACADABRA = {
        {97, 1, 257, -1, 0}, {1, 1, 2, 0, 1}, {97, 1, 256, -1, 0}, {2, 2, 4, 0, 1}, {112, 1, 255, -1, 0},
        {0, 1, 6, 0, 0}, {1, 1, 2, 1, 1}, {3, 2, 5, 0, 1}, {97, 1, 254, -1, 0}, {0, 2, 9, 0, 0},
        {2, 2, 4, 1, 1}, {4, 2, 6, 0, 1}, {97, 1, 253, -1, 0}, {0, 3, 12, 0, 0}, {0, 1, 6, 1, 0},
        {0, 1, 2, 2, 0}, {0, 1, 2, 2, 0}, {1, 1, 2, 2, 1}, {3, 2, 5, 1, 1}, {5, 2, 7, 0, 1},
        {251, 1, 252, -1, 0},
    };

    public static void main(String[] args) {
        everyStepOfEncode();
        everyStepOfDecode();
        firstAndLast();
        belowZero();
        behindTheLast();
        anotherWhat();
        beforeAnyRun();
        onlyTheLatestRun();
        behindBegin();
        manySteps();
        greatWholes();
        Due.end();
    }

    private static void everyStepOfEncode() {
        Due.sentence("Promise 12", WHAT);
        EscapeCoder coder = Make.encoded("abracadabra");
        for (int i = 0; i < ABRACADABRA.length; i++) {
            Make.stepDue("encode()", coder, i, ABRACADABRA[i]);
        }
    }

    private static void everyStepOfDecode() {
        Due.sentence("Promise 12", WHAT);
        EscapeCoder coder = Make.withCode(Make.hex("614f8c98539f7d2ca1286500"));
        coder.decode();
        for (int i = 0; i < ABRACADABRA.length; i++) {
            Make.stepDue("decode()", coder, i, ABRACADABRA[i]);
        }
    }

    private static void firstAndLast() {
        Due.sentence("Promise 12", "Of step i");
        EscapeCoder coder = Make.encoded("");
        Make.stepDue("the first is the last", coder, 0, 256, 1, 257, -1, 0);
        Due.same("step(1, 0)", coder.step(1, 0), -2);
    }

    private static void belowZero() {
        Due.sentence("Promise 12", NONE);
        EscapeCoder coder = Make.encoded("abracadabra");
        for (int i : new int[] {-1, -2, -21, Integer.MIN_VALUE}) {
            for (int what = 0; what < 5; what++) {
                Due.same("step(" + i + ", " + what + ")", coder.step(i, what), -2);
            }
        }
    }

    private static void behindTheLast() {
        Due.sentence("Promise 12", NONE);
        EscapeCoder coder = Make.encoded("abracadabra");
        for (int i : new int[] {21, 22, 63, 64, 19999, 20000, 20001, Integer.MAX_VALUE}) {
            for (int what = 0; what < 5; what++) {
                Due.same("step(" + i + ", " + what + ")", coder.step(i, what), -2);
            }
        }
    }

    private static void anotherWhat() {
        Due.sentence("Promise 12", NONE);
        EscapeCoder coder = Make.encoded("abracadabra");
        for (int what : new int[] {-1, -2, 5, 6, 256, Integer.MIN_VALUE, Integer.MAX_VALUE}) {
            for (int i = 0; i < 21; i++) {
                Due.same("step(" + i + ", " + what + ")", coder.step(i, what), -2);
            }
        }
    }

    private static void beforeAnyRun() {
        Due.sentence("Promise 12", NONE);
        EscapeCoder coder = Make.withText("abc");
        coder.push(1);
        for (int what = -1; what < 6; what++) {
            Due.same("step(0, " + what + ")", coder.step(0, what), -2);
        }
    }

    private static void onlyTheLatestRun() {
        Due.sentence("Promise 12", "of the latest encode() or decode()");
        EscapeCoder coder = Make.encoded("abracadabra");
        coder.cut(0);
        coder.encode();
        Make.stepDue("the latest", coder, 0, 256, 1, 257, -1, 0);
        Due.same("of the run before", coder.step(1, 0), -2);
        coder.keep(0);
        Make.push(coder, Make.hex("619de21d0100"));
        coder.decode();
        Make.stepDue("the latest, a read one", coder, 2, 255, 1, 256, -1, 0);
        coder.encode();
        Due.same("of the read one before", coder.step(1, 0), -2);
    }

    private static void behindBegin() {
        Due.sentence("Promise 2", "Text, code, OUTPUT, model and steps are empty");
        EscapeCoder coder = Make.encoded("abracadabra");
        coder.begin(9);
        Due.same("begun", coder.step(0, 0), -2);
    }

    private static void manySteps() {
        Due.sentence("Promise 12", WHAT);
        EscapeCoder coder = Make.withCode(8);
        Reference due = new Reference();
        due.push(8);
        coder.decode();
        due.decode();
        stepsDue(coder, due);
    }

    /** Each byte behind each: order 0 and its whole grow as far as so many bytes let them. */
    private static void greatWholes() {
        Due.sentence("Promise 12", WHAT);
        EscapeCoder coder = new EscapeCoder();
        Reference due = new Reference();
        for (int i = 0; i < 4000; i++) {
            int b = i * i * 7 + i / 3 & 255;
            coder.feed(b);
            due.feed(b);
        }
        Due.same("encode()", coder.encode(), due.encode());
        stepsDue(coder, due);
    }

    private static void stepsDue(EscapeCoder coder, Reference due) {
        for (int i = 0; i <= due.count(0); i++) {
            for (int what = 0; what < 5; what++) {
                Due.same("step(" + i + ", " + what + ")", coder.step(i, what), due.step(i, what));
            }
        }
    }
}
