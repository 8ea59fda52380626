/** Promise 15: the byte of node i of a context, in the order in which they came; BAD if there is none. */
public final class Promise15NodeTest {
    public static void main(String[] args) {
        nodesOfAModel();
        wrongInputs();
        orderIsThatOfComing();
        modelOfTheLatestRun();
        Due.end();
    }

    private static void nodesDue(EscapeCoder coder, int order, int before, int earlier, String want) {
        String context = "order " + order + " behind " + earlier + ", " + before + ", node ";
        for (int i = 0; i < want.length(); i++) {
            Due.same(context + i, coder.node(order, before, earlier, i), want.charAt(i));
        }
        Due.same(context + "behind all", coder.node(order, before, earlier, want.length()), EscapeCoder.BAD);
    }

    private static void nodesOfAModel() {
        EscapeCoder coder = Make.encoded("abracadabra");
        nodesDue(coder, 0, 0, 0, "abrcd");
        nodesDue(coder, 0, -5, 700, "abrcd");
        nodesDue(coder, 1, 'a', 0, "bcd");
        nodesDue(coder, 1, 'a', -9, "bcd");
        nodesDue(coder, 1, 'b', 0, "r");
        nodesDue(coder, 1, 'z', 0, "");
        nodesDue(coder, 2, 'b', 'a', "r");
        nodesDue(coder, 2, 'a', 'b', "");
        nodesDue(coder, 2, 'a', 'r', "c");
    }

    private static void wrongInputs() {
        EscapeCoder coder = Make.encoded("\0\0\0\0\377\377\377\377");
        nodesDue(coder, 0, 0, 0, "\0\377");
        nodesDue(coder, 1, 0, 0, "\0\377");
        nodesDue(coder, 2, 0, 0, "\0\377");
        nodesDue(coder, 2, 255, 255, "\377");
        nodesDue(coder, 2, 255, 0, "\377");
        for (int wrong : new int[] {-1, 256, 257, Integer.MIN_VALUE, Integer.MAX_VALUE}) {
            Due.same("node " + wrong, coder.node(0, 0, 0, wrong), EscapeCoder.BAD);
            nodesDue(coder, 1, wrong, 0, "");
            nodesDue(coder, 2, wrong, 0, "");
            nodesDue(coder, 2, 0, wrong, "");
        }
        for (int order : new int[] {-1, 3, Integer.MIN_VALUE, Integer.MAX_VALUE}) {
            nodesDue(coder, order, 0, 0, "");
        }
    }

    /** A node that grows stays where it is, and so do all when a context is rescaled. */
    private static void orderIsThatOfComing() {
        nodesDue(Make.encoded("zyxzzyyxxa"), 0, 0, 0, "zyxa");
        nodesDue(Make.encoded("aabaacaacaac" + Make.repeat('a', 270)), 2, 'a', 'a', "bca");
        nodesDue(Make.encoded(Make.allBytes()), 0, 0, 0, Make.allBytes());
        EscapeCoder coder = Make.encoded("z" + Make.allBytes().substring(56));
        Due.same("z first", coder.node(0, 0, 0, 0), 'z');
        Due.same("then 56", coder.node(0, 0, 0, 1), 56);
        nodesDue(coder, 1, 'z', 0, "\70{");
    }

    private static void modelOfTheLatestRun() {
        EscapeCoder coder = Make.withText("xx");
        nodesDue(coder, 0, 0, 0, "");
        Make.push(coder, Make.hex("619de21d0100"));
        coder.decode();
        nodesDue(coder, 0, 0, 0, "a");
        coder.encode();
        nodesDue(coder, 0, 0, 0, "x");
        coder.begin(9);
        nodesDue(coder, 0, 0, 0, "");
    }
}
