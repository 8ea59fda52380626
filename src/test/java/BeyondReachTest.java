import java.lang.reflect.Field;

/**
 * Two sentences that no text of 4000 bytes reaches: a code of more than 8000 bytes, and more than 20000 steps. So
 * this test alone looks inside the class, and lets a coder's text grow longer.
 */
public final class BeyondReachTest {
    private static final int LONGER = 30000;
    private static final String TOO_LONG = "BAD, and the code is empty, when these would be more than 8000 (steps, counts and "
            + "model are of the whole text then, too)";

    public static void main(String[] args) throws ReflectiveOperationException {
        justEightThousand();
        oneByteMore();
        farMore();
        wholeAgainBehindIt();
        firstTwentyThousandSteps();
        Due.end();
    }

    private static EscapeCoder ofLongText(String text) throws ReflectiveOperationException {
        EscapeCoder coder = new EscapeCoder();
        Field row = EscapeCoder.class.getDeclaredField("text");
        row.setAccessible(true);
        Field most = row.get(coder).getClass().getDeclaredField("most");
        most.setAccessible(true);
        most.setInt(row.get(coder), LONGER);
        Make.feed(coder, text);
        return coder;
    }

    private static Reference referenceOf(String text) {
        Reference due = new Reference(LONGER);
        text.chars().forEach(due::feed);
        return due;
    }

    /** How much of the noise has a code of just so many bytes. */
    private static String noiseOf(int codeBytes) {
        int low = 0;
        int high = 8000;
        while (low < high) {
            int middle = (low + high) / 2;
            Reference due = referenceOf(Make.noise(middle));
            due.encode();
            if (due.count(2) + 4 < codeBytes) {
                low = middle + 1;
            } else {
                high = middle;
            }
        }
        return Make.noise(low);
    }

    private static void sameAsReference(EscapeCoder coder, Reference due) {
        Due.same("encode()", coder.encode(), due.encode());
        Due.same("size(1)", coder.size(Make.CODE), due.size(1));
        for (int i = 0; i <= due.size(1); i++) {
            Due.same("at(1, " + i + ")", coder.at(Make.CODE, i), due.at(1, i));
        }
        for (int what = 0; what < 8; what++) {
            Due.same("count(" + what + ")", coder.count(what), due.count(what));
        }
        for (int i = 0; i <= due.count(0); i++) {
            for (int what = 0; what < 5; what++) {
                Due.same("step(" + i + ", " + what + ")", coder.step(i, what), due.step(i, what));
            }
        }
        for (int i = 0; i <= 256; i++) {
            int b = due.node(0, 0, 0, i);
            Due.same("node " + i, coder.node(0, 0, 0, i), b);
            Due.same("learnt " + b, coder.learnt(0, 0, 0, b), due.learnt(0, 0, 0, b));
        }
    }

    private static void justEightThousand() throws ReflectiveOperationException {
        Due.sentence("Terms, THE CODE", "8000 at most");
        String text = noiseOf(8000);
        Reference due = referenceOf(text);
        Due.same("bytes of the code", due.encode(), 8000);
        EscapeCoder coder = ofLongText(text);
        sameAsReference(coder, due);
        Due.no("push, one more", coder.push(0));
    }

    private static void oneByteMore() throws ReflectiveOperationException {
        Due.sentence("Promise 5", TOO_LONG);
        String text = noiseOf(8001);
        Reference due = referenceOf(text);
        Due.same("bytes of the code", due.encode(), EscapeCoder.BAD);
        Due.same("shifts", due.count(2), 7997);
        EscapeCoder coder = ofLongText(text);
        Make.push(coder, 1, 2, 3);
        sameAsReference(coder, due);
        Make.bytesDue("the code is empty", coder, Make.CODE);
    }

    private static void farMore() throws ReflectiveOperationException {
        Due.sentence("Promise 5", TOO_LONG);
        String text = Make.noise(9000);
        EscapeCoder coder = ofLongText(text);
        sameAsReference(coder, referenceOf(text));
        Due.same("encode()", coder.encode(), EscapeCoder.BAD);
        Make.bytesDue("the code is empty", coder, Make.CODE);
        Make.bytesDue("the OUTPUT too", coder, Make.OUTPUT);
    }

    private static void wholeAgainBehindIt() throws ReflectiveOperationException {
        Due.sentence("Promise 5", TOO_LONG);
        EscapeCoder coder = ofLongText(Make.noise(9000));
        coder.encode();
        Due.yes("push", coder.push(7));
        Make.bytesDue("pushed", coder, Make.CODE, 7);
        coder.cut(0);
        Due.same("encode()", coder.encode(), 5);
        Make.bytesDue("code", coder, Make.CODE, 255, 0, 255, 0, 0);
    }

    private static void firstTwentyThousandSteps() throws ReflectiveOperationException {
        Due.sentence("Promise 12", "Of step i (the first 20000)");
        String text = Make.noise(12000);
        Reference due = referenceOf(text);
        EscapeCoder coder = ofLongText(text);
        sameAsReference(coder, due);
        Due.yes("more steps than 20000", coder.count(0) > 20000);
        Due.yes("the last that is told", coder.step(19999, 2) > 0);
        for (int what = -1; what < 6; what++) {
            Due.same("step(20000, " + what + ")", coder.step(20000, what), -2);
            Due.same("step, the last", coder.step((int) coder.count(0) - 1, what), -2);
        }
    }
}
