/** Promise 3: a byte comes behind the text; false if it is no byte, or there are 4000. */
public final class Promise03FeedTest {
    public static void main(String[] args) {
        bytesComeBehind();
        wrongOnesDoNot();
        onlyTheTextChanges();
        fourThousandAreAll();
        Due.end();
    }

    private static void bytesComeBehind() {
        EscapeCoder coder = new EscapeCoder();
        String all = Make.allBytes();
        Make.feed(coder, all.substring(0, 128));
        Make.textDue("fed", coder, Make.TEXT, all.substring(0, 128));
        EscapeCoder second = Make.withText(all.substring(128));
        Make.textDue("fed", second, Make.TEXT, all.substring(128));
    }

    private static void wrongOnesDoNot() {
        EscapeCoder coder = Make.withText("x");
        for (int b : new int[] {-1, 256, 257, -128, 1000, Integer.MIN_VALUE, Integer.MAX_VALUE}) {
            Due.no("feed(" + b + ")", coder.feed(b));
        }
        Make.textDue("as before", coder, Make.TEXT, "x");
    }

    private static void onlyTheTextChanges() {
        EscapeCoder coder = Make.encoded("a");
        coder.decode();
        coder.feed('b');
        Make.textDue("fed", coder, Make.TEXT, "ab");
        Make.bytesDue("as before", coder, Make.CODE, Make.hex("619de21d0100"));
        Make.textDue("as before", coder, Make.OUTPUT, "a");
        Make.countsDue("as before", coder, 3, 1, 2, 0, 0, 1, 2139160320L, 1);
        Due.same("learnt(0, 0, 0, 'b')", coder.learnt(0, 0, 0, 'b'), 0);
    }

    /** So many calls are more than the document promises; the number is the document's all the same. */
    private static void fourThousandAreAll() {
        EscapeCoder coder = new EscapeCoder();
        for (int i = 0; i < 4000; i++) {
            Due.yes("feed, the " + i + "th", coder.feed(i % 251));
        }
        Due.no("feed, one too many", coder.feed(1));
        Due.same("size(0)", coder.size(Make.TEXT), 4000);
        Due.same("at(0, 3999)", coder.at(Make.TEXT, 3999), 3999 % 251);
        int codeBytes = coder.encode();
        Due.same("size(1)", coder.size(Make.CODE), codeBytes);
        Due.same("decode()", coder.decode(), 4000);
        for (int i = 0; i < 4000; i++) {
            Due.same("at(2, " + i + ")", coder.at(Make.OUTPUT, i), i % 251);
        }
        Due.yes("cut(3999)", coder.cut(3999));
        Due.yes("feed in the room again", coder.feed(1));
        Due.no("feed, one too many again", coder.feed(1));
    }
}
