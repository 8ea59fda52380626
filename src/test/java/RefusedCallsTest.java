import java.util.ArrayList;
import java.util.List;

/** Calls that are refused, and calls that only ask, change nothing in any state; all promises. */
public final class RefusedCallsTest {
    private static final int[] EDGES = {-2, -1, 256, 4001, 8001, Integer.MIN_VALUE, Integer.MAX_VALUE};

    public static void main(String[] args) {
        for (EscapeCoder coder : states()) {
            refusedBegin(coder);
            refusedFeed(coder);
            refusedCut(coder);
            refusedPush(coder);
            refusedChange(coder);
            refusedKeep(coder);
            askingAlone(coder);
        }
        refusedWhenFull();
        Due.end();
    }

    private static List<EscapeCoder> states() {
        List<EscapeCoder> all = new ArrayList<>();
        all.add(new EscapeCoder());
        all.add(Make.withText("abc"));
        all.add(Make.withCode(1, 2, 3));
        all.add(Make.encoded("abracadabra"));
        EscapeCoder read = Make.encoded(9, "abracadabra");
        read.decode();
        all.add(read);
        EscapeCoder bad = Make.encoded("abracadabra");
        bad.push(1);
        bad.decode();
        all.add(bad);
        EscapeCoder begun = Make.encoded("abracadabra");
        begun.begin(4);
        all.add(begun);
        EscapeCoder full = new EscapeCoder();
        full.decode();
        all.add(full);
        return all;
    }

    private static void refusedBegin(EscapeCoder coder) {
        Due.sentence("Promise 2", "False, and nothing changes: not such.");
        State before = new State(coder);
        for (int limit : new int[] {3, 6001, 0, -1, Integer.MIN_VALUE, Integer.MAX_VALUE}) {
            Due.no("begin(" + limit + ")", coder.begin(limit));
        }
        new State(coder).sameAs("refused begin", before);
    }

    private static void refusedFeed(EscapeCoder coder) {
        Due.sentence("Promise 3", "False: not such");
        State before = new State(coder);
        for (int b : EDGES) {
            Due.no("feed(" + b + ")", coder.feed(b));
        }
        new State(coder).sameAs("refused feed", before);
    }

    private static void refusedCut(EscapeCoder coder) {
        Due.sentence("Promise 4", "False: n is below 0, or it has fewer.");
        State before = new State(coder);
        for (int n : EDGES) {
            Due.no("cut(" + n + ")", coder.cut(n));
        }
        Due.no("cut, one too many", coder.cut(coder.size(Make.TEXT) + 1));
        new State(coder).sameAs("refused cut", before);
    }

    private static void refusedPush(EscapeCoder coder) {
        Due.sentence("Promise 7", "False: not such");
        State before = new State(coder);
        for (int b : EDGES) {
            Due.no("push(" + b + ")", coder.push(b));
        }
        new State(coder).sameAs("refused push", before);
    }

    private static void refusedChange(EscapeCoder coder) {
        Due.sentence("Promise 8", "False: none such.");
        State before = new State(coder);
        int size = coder.size(Make.CODE);
        for (int wrong : EDGES) {
            Due.no("change(" + wrong + ", 0)", coder.change(wrong, 0));
            Due.no("change(0, " + wrong + ")", coder.change(0, wrong));
            Due.no("change(" + (size - 1) + ", " + wrong + ")", coder.change(size - 1, wrong));
        }
        Due.no("change, behind the last", coder.change(size, 0));
        new State(coder).sameAs("refused change", before);
    }

    private static void refusedKeep(EscapeCoder coder) {
        Due.sentence("Promise 9", "False: n is below 0, or it has fewer.");
        State before = new State(coder);
        for (int n : EDGES) {
            Due.no("keep(" + n + ")", coder.keep(n));
        }
        Due.no("keep, one too many", coder.keep(coder.size(Make.CODE) + 1));
        new State(coder).sameAs("refused keep", before);
    }

    private static void askingAlone(EscapeCoder coder) {
        Due.sentence("Not promised", "Nothing is promised beyond the answers and state changes described above");
        State before = new State(coder);
        for (int a : new int[] {-1, 0, 1, 2, 3, 97, 256, Integer.MIN_VALUE, Integer.MAX_VALUE}) {
            coder.size(a);
            coder.count(a);
            for (int b : new int[] {-1, 0, 1, 5, 97, 256, Integer.MIN_VALUE, Integer.MAX_VALUE}) {
                coder.at(a, b);
                coder.step(a, b);
                coder.learnt(a, b, b, a);
                coder.node(a, b, b, a);
                coder.learnt(2, a, b, 97);
                coder.node(2, a, b, 0);
            }
        }
        new State(coder).sameAs("asking", before);
    }

    /** So many calls are more than the document promises; the numbers are the document's all the same. */
    private static void refusedWhenFull() {
        EscapeCoder coder = Make.encoded(Make.noise(4000));
        coder.keep(0);
        Make.push(coder, Make.noise(8000).chars().toArray());
        State before = new State(coder);
        Due.sentence("Promise 3", "there are 4000");
        Due.no("feed(0)", coder.feed(0));
        Due.sentence("Promise 7", "there are 8000");
        Due.no("push(0)", coder.push(0));
        new State(coder).sameAs("full", before);
    }
}
