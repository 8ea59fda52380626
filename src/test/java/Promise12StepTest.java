/** Promise 12: what a step of the latest run was; -2 if there is none such. */
public final class Promise12StepTest {
    private static final int[][] ABRACADABRA = {
        {97, 1, 257, -1, 0}, {1, 1, 2, 0, 1}, {97, 1, 256, -1, 0}, {2, 2, 4, 0, 1}, {112, 1, 255, -1, 0},
        {0, 1, 6, 0, 0}, {1, 1, 2, 1, 1}, {3, 2, 5, 0, 1}, {97, 1, 254, -1, 0}, {0, 2, 9, 0, 0},
        {2, 2, 4, 1, 1}, {4, 2, 6, 0, 1}, {97, 1, 253, -1, 0}, {0, 3, 12, 0, 0}, {0, 1, 6, 1, 0},
        {0, 1, 2, 2, 0}, {0, 1, 2, 2, 0}, {1, 1, 2, 2, 1}, {3, 2, 5, 1, 1}, {5, 2, 7, 0, 1},
        {251, 1, 252, -1, 0},
    };

    public static void main(String[] args) {
        everyStepOfARun();
        wrongNumbers();
        onlyTheLatestRun();
        manySteps();
        greatWholes();
        Due.end();
    }

    private static void everyStepOfARun() {
        EscapeCoder coder = Make.encoded("abracadabra");
        for (int i = 0; i < ABRACADABRA.length; i++) {
            Make.stepDue("encode()", coder, i, ABRACADABRA[i]);
        }
        coder.decode();
        for (int i = 0; i < ABRACADABRA.length; i++) {
            Make.stepDue("decode()", coder, i, ABRACADABRA[i]);
        }
    }

    private static void wrongNumbers() {
        EscapeCoder coder = Make.encoded("abracadabra");
        for (int i : new int[] {-1, 21, 22, 64, 19999, 20000, 20001, Integer.MIN_VALUE, Integer.MAX_VALUE}) {
            for (int what = 0; what < 5; what++) {
                Due.same("step(" + i + ", " + what + ")", coder.step(i, what), -2);
            }
        }
        for (int what : new int[] {-1, 5, 6, Integer.MIN_VALUE, Integer.MAX_VALUE}) {
            Due.same("step(0, " + what + ")", coder.step(0, what), -2);
        }
        Due.same("before any run", new EscapeCoder().step(0, 0), -2);
    }

    private static void onlyTheLatestRun() {
        EscapeCoder coder = Make.encoded("abracadabra");
        coder.cut(0);
        coder.encode();
        Make.stepDue("the latest", coder, 0, 256, 1, 257, -1, 0);
        Due.same("of the run before", coder.step(1, 0), -2);
        coder.begin(9);
        Due.same("begun", coder.step(0, 0), -2);
    }

    private static void manySteps() {
        EscapeCoder coder = Make.withCode(8);
        Reference due = new Reference();
        due.push(8);
        coder.decode();
        due.decode();
        for (int i = 0; i <= due.count(0); i++) {
            for (int what = 0; what < 5; what++) {
                Due.same("step(" + i + ", " + what + ")", coder.step(i, what), due.step(i, what));
            }
        }
    }

    /** Each byte behind each: order 0 and its whole grow as far as so many bytes let them. */
    private static void greatWholes() {
        EscapeCoder coder = new EscapeCoder();
        Reference due = new Reference();
        for (int i = 0; i < 4000; i++) {
            int b = i * i * 7 + i / 3 & 255;
            coder.feed(b);
            due.feed(b);
        }
        Due.same("encode()", coder.encode(), due.encode());
        for (int i = 0; i <= due.count(0); i++) {
            for (int what = 0; what < 5; what++) {
                Due.same("step(" + i + ", " + what + ")", coder.step(i, what), due.step(i, what));
            }
        }
    }
}
