/** Promise 15, "node". */
public final class Promise15NodeTest {
    private static final String BYTE = "The byte of node i of such a context, in their order.";
    private static final String NONE = "BAD: none such.";
    private static final int[] NO_BYTES = {-1, 256, 257, 512, 65536, Integer.MIN_VALUE, Integer.MAX_VALUE};

    public static void main(String[] args) {
        nodesOfAModel();
        orderIsThatOfComing();
        orderStaysWhenTheyGrow();
        fullContext();
        whatTheOrderHasNot();
        belowZero();
        behindTheLast();
        noContext();
        noSuchOrder();
        noSuchBytes();
        modelOfTheLatestRun();
        Due.end();
    }

    private static EscapeCoder ofEdges() {
        return Make.encoded("\0\0\0\0\377\377\377\377");
    }

    private static void nodesDue(EscapeCoder coder, int order, int before, int earlier, String want) {
        String context = "order " + order + " behind " + earlier + ", " + before + ", node ";
        for (int i = 0; i < want.length(); i++) {
            Due.same(context + i, coder.node(order, before, earlier, i), want.charAt(i));
        }
        Due.same(context + "behind all", coder.node(order, before, earlier, want.length()), EscapeCoder.BAD);
    }

    private static void nodesOfAModel() {
        Due.sentence("Promise 15", BYTE);
        EscapeCoder coder = Make.encoded("abracadabra");
        nodesDue(coder, 0, 0, 0, "abrcd");
        nodesDue(coder, 1, 'a', 0, "bcd");
        nodesDue(coder, 1, 'b', 0, "r");
        nodesDue(coder, 2, 'b', 'a', "r");
        nodesDue(coder, 2, 'a', 'r', "c");
        nodesDue(ofEdges(), 2, 0, 0, "\0\377");
        nodesDue(ofEdges(), 2, 255, 255, "\377");
        nodesDue(ofEdges(), 2, 255, 0, "\377");
    }

    private static void orderIsThatOfComing() {
        Due.sentence("Terms, THE MODEL", "A context has NODES, in the order in which they came");
        nodesDue(Make.encoded("zyxa"), 0, 0, 0, "zyxa");
        EscapeCoder coder = Make.encoded("z" + Make.allBytes().substring(56));
        Due.same("z first", coder.node(0, 0, 0, 0), 'z');
        Due.same("then 56", coder.node(0, 0, 0, 1), 56);
        nodesDue(coder, 1, 'z', 0, "\70{");
    }

    /** A node that grows stays where it is, and so do all when a context is rescaled. */
    private static void orderStaysWhenTheyGrow() {
        Due.sentence("Terms, THE MODEL", "A context has NODES, in the order in which they came");
        nodesDue(Make.encoded("zyxzzyyxxa"), 0, 0, 0, "zyxa");
        nodesDue(Make.encoded("aabaacaacaac" + Make.repeat('a', 270)), 2, 'a', 'a', "bca");
    }

    private static void fullContext() {
        Due.sentence("Promise 15", BYTE);
        EscapeCoder coder = Make.encoded(Make.allBytes());
        nodesDue(coder, 0, 0, 0, Make.allBytes());
        Due.same("node 255", coder.node(0, 0, 0, 255), 255);
        Due.same("node 256", coder.node(0, 0, 0, 256), EscapeCoder.BAD);
    }

    private static void whatTheOrderHasNot() {
        Due.sentence("Promise 15", "of such a context");
        EscapeCoder coder = Make.encoded("abracadabra");
        for (int any : NO_BYTES) {
            nodesDue(coder, 0, any, any, "abrcd");
            nodesDue(coder, 1, 'a', any, "bcd");
        }
    }

    private static void belowZero() {
        Due.sentence("Promise 15", NONE);
        EscapeCoder coder = ofEdges();
        for (int i : new int[] {-1, -2, -256, Integer.MIN_VALUE}) {
            for (int order = 0; order < 3; order++) {
                Due.same("node(" + order + ", 0, 0, " + i + ")", coder.node(order, 0, 0, i), EscapeCoder.BAD);
            }
        }
    }

    private static void behindTheLast() {
        Due.sentence("Promise 15", NONE);
        EscapeCoder coder = ofEdges();
        for (int i : new int[] {2, 3, 63, 64, 256, Integer.MAX_VALUE}) {
            for (int order = 0; order < 3; order++) {
                Due.same("node(" + order + ", 0, 0, " + i + ")", coder.node(order, 0, 0, i), EscapeCoder.BAD);
            }
        }
    }

    private static void noContext() {
        Due.sentence("Promise 15", NONE);
        EscapeCoder coder = Make.encoded("abracadabra");
        nodesDue(coder, 1, 'z', 0, "");
        nodesDue(coder, 2, 'a', 'b', "");
        nodesDue(Make.withText("a"), 0, 0, 0, "");
    }

    private static void noSuchOrder() {
        Due.sentence("Promise 15", NONE);
        EscapeCoder coder = ofEdges();
        for (int order : new int[] {-1, -2, 3, 4, 256, Integer.MIN_VALUE, Integer.MAX_VALUE}) {
            nodesDue(coder, order, 0, 0, "");
            nodesDue(coder, order, 255, 255, "");
        }
    }

    private static void noSuchBytes() {
        Due.sentence("Promise 15", NONE);
        EscapeCoder coder = ofEdges();
        for (int wrong : NO_BYTES) {
            nodesDue(coder, 1, wrong, 0, "");
            nodesDue(coder, 2, wrong, 0, "");
            nodesDue(coder, 2, wrong, 255, "");
            nodesDue(coder, 2, 0, wrong, "");
            nodesDue(coder, 2, 254, wrong, "");
            nodesDue(coder, 2, 255, wrong, "");
        }
    }

    private static void modelOfTheLatestRun() {
        Due.sentence("Promise 15", BYTE);
        EscapeCoder coder = Make.withText("xx");
        Make.push(coder, Make.hex("619de21d0100"));
        coder.decode();
        nodesDue(coder, 0, 0, 0, "a");
        coder.encode();
        nodesDue(coder, 0, 0, 0, "x");
        coder.begin(9);
        nodesDue(coder, 0, 0, 0, "");
    }
}
