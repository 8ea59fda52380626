/** Promise 7, "push". */
public final class Promise07PushTest {
    private static final String BEHIND = "A byte (0 .. 255) comes behind the code.";

    public static void main(String[] args) {
        bytesComeBehind();
        behindAnEncodedOne();
        notSuch();
        thereAreEightThousand();
        roomComesAgain();
        onlyTheCodeChanges();
        Due.end();
    }

    private static void bytesComeBehind() {
        Due.sentence("Promise 7", BEHIND);
        EscapeCoder coder = new EscapeCoder();
        Due.yes("push(255)", coder.push(255));
        Due.yes("push(0)", coder.push(0));
        Make.bytesDue("pushed", coder, Make.CODE, 255, 0);
        Make.push(coder, Make.allBytes().chars().toArray());
        Make.textDue("pushed", coder, Make.CODE, "\377\0" + Make.allBytes());
    }

    private static void behindAnEncodedOne() {
        Due.sentence("Promise 7", BEHIND);
        EscapeCoder coder = Make.encoded("");
        Make.push(coder, 1, 2);
        Make.bytesDue("pushed behind", coder, Make.CODE, 255, 0, 255, 0, 0, 1, 2);
    }

    private static void notSuch() {
        Due.sentence("Promise 7", "False: not such");
        EscapeCoder coder = Make.withCode(0, 255, 7);
        for (int b : new int[] {-1, 256, 257, 300, -128, -256, Integer.MIN_VALUE, Integer.MAX_VALUE}) {
            Due.no("push(" + b + ")", coder.push(b));
            Make.bytesDue("as before", coder, Make.CODE, 0, 255, 7);
        }
        Due.no("push(256) of an empty code", new EscapeCoder().push(256));
    }

    /** So many calls are more than the document promises; the number is the document's all the same. */
    private static void thereAreEightThousand() {
        Due.sentence("Promise 7", "there are 8000");
        EscapeCoder coder = Make.withCode(Make.noise(7999).chars().toArray());
        Due.yes("push, the 8000th", coder.push(7));
        Due.no("push, the 8001st", coder.push(8));
        Due.no("push, no byte either", coder.push(256));
        Make.textDue("8000 bytes", coder, Make.CODE, Make.noise(7999) + "\7");
    }

    private static void roomComesAgain() {
        Due.sentence("Promise 7", "there are 8000");
        EscapeCoder coder = Make.withCode(Make.noise(8000).chars().toArray());
        Due.yes("keep(7999)", coder.keep(7999));
        Due.yes("push in the room again", coder.push(1));
        Due.no("push, one too many again", coder.push(1));
        Due.same("encode() over a full code", coder.encode(), 5);
        Due.yes("push behind it", coder.push(1));
    }

    private static void onlyTheCodeChanges() {
        Due.sentence("Promise 7", BEHIND);
        EscapeCoder coder = Make.encoded("ab");
        coder.decode();
        State before = new State(coder);
        coder.push(5);
        new State(coder).sameBut("behind push", before, Make.CODE);
    }
}
