/** Promise 7: a byte comes behind the code; false if it is no byte, or there are 8000. */
public final class Promise07PushTest {
    public static void main(String[] args) {
        EscapeCoder coder = Make.withCode(0, 255, 7);
        for (int b : new int[] {-1, 256, 300, Integer.MIN_VALUE, Integer.MAX_VALUE}) {
            Due.no("push(" + b + ")", coder.push(b));
        }
        Make.bytesDue("pushed", coder, Make.CODE, 0, 255, 7);
        Make.bytesDue("text", coder, Make.TEXT);
        Make.countsDue("no run", coder, 0, 0, 0, 0, 0, 0, 0, 0);
        behindAnEncodedOne();
        eightThousandAreAll();
        Due.end();
    }

    private static void behindAnEncodedOne() {
        EscapeCoder coder = Make.encoded("");
        Make.push(coder, 1, 2);
        Make.bytesDue("pushed behind", coder, Make.CODE, 255, 0, 255, 0, 0, 1, 2);
    }

    /** So many calls are more than the document promises; the number is the document's all the same. */
    private static void eightThousandAreAll() {
        EscapeCoder coder = new EscapeCoder();
        for (int i = 0; i < 8000; i++) {
            Due.yes("push, the " + i + "th", coder.push(i % 253));
        }
        Due.no("push, one too many", coder.push(1));
        Due.same("size(1)", coder.size(Make.CODE), 8000);
        Due.same("at(1, 7999)", coder.at(Make.CODE, 7999), 7999 % 253);
        Due.yes("keep(7999)", coder.keep(7999));
        Due.yes("push in the room again", coder.push(1));
        Due.no("push, one too many again", coder.push(1));
    }
}
