/** Promise 3, "feed". */
public final class Promise03FeedTest {
    public static void main(String[] args) {
        bytesComeBehind();
        notSuch();
        thereAreFourThousand();
        roomComesAgain();
        onlyTheTextChanges();
        Due.end();
    }

    private static void bytesComeBehind() {
        Due.sentence("Promise 3", "A byte (0 .. 255) comes behind the text.");
        EscapeCoder coder = new EscapeCoder();
        Due.yes("feed(255)", coder.feed(255));
        Due.yes("feed(0)", coder.feed(0));
        Make.bytesDue("fed", coder, Make.TEXT, 255, 0);
        Make.feed(coder, Make.allBytes());
        Make.textDue("fed", coder, Make.TEXT, "\377\0" + Make.allBytes());
    }

    private static void notSuch() {
        Due.sentence("Promise 3", "False: not such");
        EscapeCoder coder = Make.withText("x");
        for (int b : new int[] {-1, 256, 257, -128, -255, -256, 1000, Integer.MIN_VALUE, Integer.MAX_VALUE}) {
            Due.no("feed(" + b + ")", coder.feed(b));
            Make.textDue("as before", coder, Make.TEXT, "x");
        }
        Due.no("feed(256) of an empty text", new EscapeCoder().feed(256));
    }

    /** So many calls are more than the document promises; the number is the document's all the same. */
    private static void thereAreFourThousand() {
        Due.sentence("Promise 3", "there are 4000");
        EscapeCoder coder = Make.withText(Make.noise(3999));
        Due.yes("feed, the 4000th", coder.feed(7));
        Due.no("feed, the 4001st", coder.feed(8));
        Due.no("feed, no byte either", coder.feed(256));
        Make.textDue("4000 bytes", coder, Make.TEXT, Make.noise(3999) + "\7");
    }

    private static void roomComesAgain() {
        Due.sentence("Promise 3", "there are 4000");
        EscapeCoder coder = Make.withText(Make.noise(4000));
        Due.yes("cut(3999)", coder.cut(3999));
        Due.yes("feed in the room again", coder.feed(1));
        Due.no("feed, one too many again", coder.feed(1));
        coder.begin(4);
        Due.yes("feed behind begin()", coder.feed(1));
    }

    private static void onlyTheTextChanges() {
        Due.sentence("Promise 3", "A byte (0 .. 255) comes behind the text.");
        EscapeCoder coder = Make.encoded("a");
        coder.decode();
        State before = new State(coder);
        Due.yes("feed('b')", coder.feed('b'));
        Make.textDue("fed", coder, Make.TEXT, "ab");
        new State(coder).sameBut("behind feed", before, Make.TEXT);
    }
}
