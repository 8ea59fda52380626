/** Promise 14, "learnt". */
public final class Promise14LearntTest {
    private static final String COUNT = "The model's count of byte b in a context of an order, the byte just before, "
            + "the one before that";
    private static final String NO_NODE = "0: no node";
    private static final String NO_SUCH = "or no such order or bytes";
    private static final int[] NO_BYTES = {-1, 256, 257, 512, 65536, Integer.MIN_VALUE, Integer.MAX_VALUE};

    public static void main(String[] args) {
        countsOfAModel();
        leastAndGreatestBytes();
        whatOrderZeroHasNot();
        whatOrderOneHasNot();
        noNode();
        noContext();
        noSuchOrder();
        noSuchByte();
        noSuchByteBefore();
        noSuchByteEarlier();
        modelOfTheLatestRun();
        Due.end();
    }

    private static EscapeCoder ofEdges() {
        return Make.encoded("\0\0\0\0\377\377\377\377");
    }

    private static void countsOfAModel() {
        Due.sentence("Promise 14", COUNT);
        EscapeCoder coder = Make.encoded("abracadabra");
        int[] order0 = {4, 1, 1, 1, 1};
        for (int i = 0; i < 5; i++) {
            Due.same("order 0", coder.learnt(0, 0, 0, "abrcd".charAt(i)), order0[i]);
        }
        Due.same("b behind a", coder.learnt(1, 'a', 0, 'b'), 2);
        Due.same("c behind a", coder.learnt(1, 'a', 0, 'c'), 1);
        Due.same("a behind r", coder.learnt(1, 'r', 0, 'a'), 1);
        Due.same("r behind ab", coder.learnt(2, 'b', 'a', 'r'), 2);
        Due.same("a behind br", coder.learnt(2, 'r', 'b', 'a'), 2);
        Due.same("b behind da", coder.learnt(2, 'a', 'd', 'b'), 1);
    }

    private static void leastAndGreatestBytes() {
        Due.sentence("Promise 14", COUNT);
        EscapeCoder coder = ofEdges();
        Due.same("0", coder.learnt(0, 0, 0, 0), 2);
        Due.same("0 behind 0", coder.learnt(1, 0, 0, 0), 2);
        Due.same("0 behind 0, 0", coder.learnt(2, 0, 0, 0), 2);
        Due.same("255 behind 0, 0", coder.learnt(2, 0, 0, 255), 1);
        Due.same("255 behind 255, 255", coder.learnt(2, 255, 255, 255), 2);
        Due.same("255 behind 0, 255", coder.learnt(2, 255, 0, 255), 1);
    }

    private static void whatOrderZeroHasNot() {
        Due.sentence("Promise 14", "(those that the order has not do not matter)");
        EscapeCoder coder = Make.encoded("abracadabra");
        for (int any : new int[] {-1, 0, 'q', 255, 256, Integer.MIN_VALUE, Integer.MAX_VALUE}) {
            Due.same("order 0", coder.learnt(0, any, 0, 'a'), 4);
            Due.same("order 0", coder.learnt(0, 0, any, 'a'), 4);
            Due.same("order 0", coder.learnt(0, any, any, 'r'), 1);
        }
    }

    private static void whatOrderOneHasNot() {
        Due.sentence("Promise 14", "(those that the order has not do not matter)");
        EscapeCoder coder = Make.encoded("abracadabra");
        for (int any : new int[] {-1, 0, 'q', 255, 256, Integer.MIN_VALUE, Integer.MAX_VALUE}) {
            Due.same("order 1", coder.learnt(1, 'a', any, 'b'), 2);
        }
    }

    private static void noNode() {
        Due.sentence("Promise 14", NO_NODE);
        EscapeCoder coder = Make.encoded("abracadabra");
        Due.same("z", coder.learnt(0, 0, 0, 'z'), 0);
        Due.same("z behind a", coder.learnt(1, 'a', 0, 'z'), 0);
        Due.same("z behind ab", coder.learnt(2, 'b', 'a', 'z'), 0);
        Due.same("a before any run", Make.withText("a").learnt(0, 0, 0, 'a'), 0);
    }

    private static void noContext() {
        Due.sentence("Promise 14", NO_NODE);
        EscapeCoder coder = Make.encoded("abracadabra");
        Due.same("a behind z", coder.learnt(1, 'z', 0, 'a'), 0);
        Due.same("a behind zz", coder.learnt(2, 'z', 'z', 'a'), 0);
        Due.same("r behind ba", coder.learnt(2, 'a', 'b', 'r'), 0);
        Due.same("255 behind 255, 0", ofEdges().learnt(2, 0, 255, 255), 0);
    }

    private static void noSuchOrder() {
        Due.sentence("Promise 14", NO_SUCH);
        EscapeCoder coder = ofEdges();
        for (int order : new int[] {-1, -2, 3, 4, 256, Integer.MIN_VALUE, Integer.MAX_VALUE}) {
            Due.same("order " + order, coder.learnt(order, 0, 0, 0), 0);
            Due.same("order " + order, coder.learnt(order, 255, 255, 255), 0);
        }
    }

    private static void noSuchByte() {
        Due.sentence("Promise 14", NO_SUCH);
        EscapeCoder coder = ofEdges();
        for (int b : NO_BYTES) {
            Due.same("order 0, " + b, coder.learnt(0, 0, 0, b), 0);
            Due.same("order 1, " + b, coder.learnt(1, 0, 0, b), 0);
            Due.same("order 2, " + b, coder.learnt(2, 0, 0, b), 0);
        }
    }

    private static void noSuchByteBefore() {
        Due.sentence("Promise 14", NO_SUCH);
        EscapeCoder coder = ofEdges();
        for (int before : NO_BYTES) {
            for (int b : new int[] {0, 255}) {
                Due.same("order 1 behind " + before, coder.learnt(1, before, 0, b), 0);
                Due.same("order 2 behind 0, " + before, coder.learnt(2, before, 0, b), 0);
                Due.same("order 2 behind 255, " + before, coder.learnt(2, before, 255, b), 0);
            }
        }
    }

    private static void noSuchByteEarlier() {
        Due.sentence("Promise 14", NO_SUCH);
        EscapeCoder coder = ofEdges();
        for (int earlier : NO_BYTES) {
            for (int b : new int[] {0, 255}) {
                Due.same("order 2 behind " + earlier + ", 0", coder.learnt(2, 0, earlier, b), 0);
                Due.same("order 2 behind " + earlier + ", 254", coder.learnt(2, 254, earlier, b), 0);
                Due.same("order 2 behind " + earlier + ", 255", coder.learnt(2, 255, earlier, b), 0);
            }
        }
    }

    private static void modelOfTheLatestRun() {
        Due.sentence("Promise 14", "The model's count of byte b");
        EscapeCoder coder = Make.withText("xx");
        Make.push(coder, Make.hex("619de21d0100"));
        coder.decode();
        Due.same("a of the code", coder.learnt(0, 0, 0, 'a'), 1);
        coder.encode();
        Due.same("a of the code before", coder.learnt(0, 0, 0, 'a'), 0);
        Due.same("x of the text", coder.learnt(0, 0, 0, 'x'), 2);
        coder.begin(9);
        Due.same("begun", coder.learnt(0, 0, 0, 'x'), 0);
    }
}
