/** All that can be asked of a coder, as texts to compare: what a call leaves as it was, and what it changes. */
final class State {
    private static final int PARTS = 4;
    private static final String[] NAMES = {"the text", "the code", "the OUTPUT", "steps, counts and model"};

    private final String[] parts = new String[PARTS];

    State(EscapeCoder coder) {
        for (int which = 0; which < 3; which++) {
            parts[which] = row(coder, which);
        }
        parts[3] = counts(coder) + steps(coder) + model(coder);
    }

    /** Nothing is otherwise than in an earlier state. */
    void sameAs(String when, State earlier) {
        sameBut(when, earlier, -1, -1);
    }

    /** Nothing is otherwise than in an earlier state, but for one part. */
    void sameBut(String when, State earlier, int changed) {
        sameBut(when, earlier, changed, changed);
    }

    void sameBut(String when, State earlier, int changed, int changedToo) {
        for (int i = 0; i < PARTS; i++) {
            if (i != changed && i != changedToo) {
                Due.same(when + ": " + NAMES[i], parts[i], earlier.parts[i]);
            }
        }
    }

    private static String row(EscapeCoder coder, int which) {
        StringBuilder all = new StringBuilder();
        for (int i = -1; i <= coder.size(which); i++) {
            all.append(coder.at(which, i)).append(' ');
        }
        return all.toString();
    }

    private static String counts(EscapeCoder coder) {
        StringBuilder all = new StringBuilder("counts ");
        for (int what = 0; what < 8; what++) {
            all.append(coder.count(what)).append(' ');
        }
        return all.toString();
    }

    private static String steps(EscapeCoder coder) {
        StringBuilder all = new StringBuilder("steps ");
        for (int i = -1; i <= coder.count(0); i++) {
            for (int what = 0; what < 5; what++) {
                all.append(coder.step(i, what)).append(what < 4 ? ',' : ' ');
            }
        }
        return all.toString();
    }

    private static String model(EscapeCoder coder) {
        StringBuilder all = new StringBuilder("model ");
        context(coder, all, 0, 0, 0);
        for (int before = 0; before < 256; before++) {
            context(coder, all, 1, before, 0);
            for (int earlier = 0; earlier < 256; earlier++) {
                context(coder, all, 2, before, earlier);
            }
        }
        return all.toString();
    }

    private static void context(EscapeCoder coder, StringBuilder all, int order, int before, int earlier) {
        if (coder.node(order, before, earlier, 0) == EscapeCoder.BAD) {
            return;
        }
        all.append(order).append(':').append(earlier).append(',').append(before).append('=');
        for (int i = 0; i < 256 && coder.node(order, before, earlier, i) != EscapeCoder.BAD; i++) {
            int b = coder.node(order, before, earlier, i);
            all.append(b).append('x').append(coder.learnt(order, before, earlier, b)).append(' ');
        }
    }
}
