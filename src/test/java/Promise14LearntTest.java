/** Promise 14: the model's count of a byte in a context; 0 if there is no node, order or byte. */
public final class Promise14LearntTest {
    public static void main(String[] args) {
        countsOfAModel();
        whatTheOrderHasNotDoesNotMatter();
        wrongInputs();
        onlyOrdersFromTheToldOneUpLearn();
        resetInTheMiddle();
        modelOfTheLatestRun();
        Due.end();
    }

    private static void countsOfAModel() {
        EscapeCoder coder = Make.encoded("abracadabra");
        int[] order0 = {4, 1, 1, 1, 1};
        for (int i = 0; i < 5; i++) {
            Due.same("order 0", coder.learnt(0, 0, 0, "abrcd".charAt(i)), order0[i]);
        }
        Due.same("b behind a", coder.learnt(1, 'a', 0, 'b'), 2);
        Due.same("c behind a", coder.learnt(1, 'a', 0, 'c'), 1);
        Due.same("a behind r", coder.learnt(1, 'r', 0, 'a'), 1);
        Due.same("r behind ab", coder.learnt(2, 'b', 'a', 'r'), 2);
        Due.same("r behind ba", coder.learnt(2, 'a', 'b', 'r'), 0);
        Due.same("a behind br", coder.learnt(2, 'r', 'b', 'a'), 2);
        Due.same("b behind da", coder.learnt(2, 'a', 'd', 'b'), 1);
        Due.same("z", coder.learnt(0, 0, 0, 'z'), 0);
        Due.same("z behind a", coder.learnt(1, 'a', 0, 'z'), 0);
        Due.same("a behind z", coder.learnt(1, 'z', 0, 'a'), 0);
        Due.same("a behind zz", coder.learnt(2, 'z', 'z', 'a'), 0);
    }

    private static void whatTheOrderHasNotDoesNotMatter() {
        EscapeCoder coder = Make.encoded("abracadabra");
        for (int any : new int[] {-1, 0, 'q', 256, Integer.MIN_VALUE, Integer.MAX_VALUE}) {
            Due.same("order 0", coder.learnt(0, any, any, 'a'), 4);
            Due.same("order 1", coder.learnt(1, 'a', any, 'b'), 2);
        }
    }

    private static void wrongInputs() {
        EscapeCoder coder = Make.encoded("\0\0\0\0\377\377\377\377");
        for (int wrong : new int[] {-1, 256, 257, 512, Integer.MIN_VALUE, Integer.MAX_VALUE}) {
            Due.same("no byte", coder.learnt(0, 0, 0, wrong), 0);
            Due.same("no byte behind 0", coder.learnt(1, 0, 0, wrong), 0);
            Due.same("no byte before", coder.learnt(1, wrong, 0, 0), 0);
            Due.same("no byte before, order 2", coder.learnt(2, wrong, 0, 0), 0);
            Due.same("no byte earlier", coder.learnt(2, 0, wrong, 0), 0);
        }
        for (int order : new int[] {-1, -2, 3, 4, Integer.MIN_VALUE, Integer.MAX_VALUE}) {
            Due.same("no order", coder.learnt(order, 0, 0, 0), 0);
        }
        Due.same("0 behind 0, 0", coder.learnt(2, 0, 0, 0), 2);
        Due.same("255 behind 255, 255", coder.learnt(2, 255, 255, 255), 2);
        Due.same("255 behind 0, 255", coder.learnt(2, 255, 0, 255), 1);
        Due.same("255 behind 255, 0", coder.learnt(2, 0, 255, 255), 0);
    }

    private static void onlyOrdersFromTheToldOneUpLearn() {
        EscapeCoder coder = Make.encoded("aaaa");
        Due.same("order 0: of -1 and of 0", coder.learnt(0, 0, 0, 'a'), 2);
        Due.same("order 1: of 0 and of 1", coder.learnt(1, 'a', 0, 'a'), 2);
        Due.same("order 2: of 1 and of 2", coder.learnt(2, 'a', 'a', 'a'), 2);
    }

    /** "abc": a; b, ab; c behind ab, then the limit of 4 is met at order 1, and order 0 learns nothing. */
    private static void resetInTheMiddle() {
        EscapeCoder coder = new EscapeCoder();
        coder.begin(4);
        Make.feed(coder, "ab");
        coder.encode();
        Due.same("nodes", coder.count(5), 3);
        Due.same("b behind a", coder.learnt(1, 'a', 0, 'b'), 1);
        coder.feed('c');
        coder.encode();
        Make.countsDue("reset", coder, coder.count(0), 2, coder.count(2), 0, 1, 0, coder.count(6), 0);
        Due.same("c behind ab", coder.learnt(2, 'b', 'a', 'c'), 0);
        Due.same("c behind b", coder.learnt(1, 'b', 0, 'c'), 0);
        Due.same("c", coder.learnt(0, 0, 0, 'c'), 0);
        Due.same("a", coder.learnt(0, 0, 0, 'a'), 0);
        coder.feed('d');
        coder.encode();
        Due.same("d behind bc", coder.learnt(2, 'c', 'b', 'd'), 1);
        Due.same("d behind c", coder.learnt(1, 'c', 0, 'd'), 1);
        Due.same("d", coder.learnt(0, 0, 0, 'd'), 1);
    }

    private static void modelOfTheLatestRun() {
        EscapeCoder coder = Make.withText("xx");
        Due.same("before any run", coder.learnt(0, 0, 0, 'x'), 0);
        Make.push(coder, Make.hex("619de21d0100"));
        coder.decode();
        Due.same("a of the code", coder.learnt(0, 0, 0, 'a'), 1);
        coder.encode();
        Due.same("a of the code before", coder.learnt(0, 0, 0, 'a'), 0);
        Due.same("x of the text", coder.learnt(0, 0, 0, 'x'), 2);
        coder.begin(9);
        Due.same("begun", coder.learnt(0, 0, 0, 'x'), 0);
    }
}
