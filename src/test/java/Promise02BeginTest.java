/** Promise 2: begin empties all and sets the limit, 4 .. 6000; else false, and nothing changes. */
public final class Promise02BeginTest {
    public static void main(String[] args) {
        limitsAreKeptTo();
        allIsEmptied();
        resetsAndRescalingsToo();
        wrongLimitChangesNothing();
        limitIsObeyed();
        greatestLimitIsObeyed();
        Due.end();
    }

    private static void limitsAreKeptTo() {
        int[] good = {4, 5, 1999, 2000, 5999, 6000};
        int[] wrong = {3, 0, -1, -4, 6001, 60000, Integer.MAX_VALUE, Integer.MIN_VALUE};
        EscapeCoder coder = new EscapeCoder();
        for (int limit : good) {
            Due.yes("begin(" + limit + ")", coder.begin(limit));
        }
        for (int limit : wrong) {
            Due.no("begin(" + limit + ")", coder.begin(limit));
        }
    }

    private static void allIsEmptied() {
        EscapeCoder coder = Make.encoded("abcabc");
        coder.decode();
        Due.yes("begin(9)", coder.begin(9));
        for (int which = 0; which < 3; which++) {
            Make.bytesDue("begun", coder, which);
        }
        Make.countsDue("begun", coder, 0, 0, 0, 0, 0, 0, 0, 0);
        Due.same("step(0, 0)", coder.step(0, 0), -2);
        Due.same("learnt(0, 0, 0, 'a')", coder.learnt(0, 0, 0, 'a'), 0);
        Due.same("node(0, 0, 0, 0)", coder.node(0, 0, 0, 0), EscapeCoder.BAD);
        Due.same("encode()", coder.encode(), 5);
    }

    private static void wrongLimitChangesNothing() {
        EscapeCoder coder = Make.encoded("a");
        coder.decode();
        Due.no("begin(3)", coder.begin(3));
        Due.no("begin(6001)", coder.begin(6001));
        Make.textDue("as before", coder, Make.TEXT, "a");
        Make.bytesDue("as before", coder, Make.CODE, Make.hex("619de21d0100"));
        Make.textDue("as before", coder, Make.OUTPUT, "a");
        Make.countsDue("as before", coder, 3, 1, 2, 0, 0, 1, 2139160320L, 1);
        Make.stepDue("as before", coder, 2, 255, 1, 256, -1, 0);
        Due.same("learnt(0, 0, 0, 'a')", coder.learnt(0, 0, 0, 'a'), 1);

        EscapeCoder small = new EscapeCoder();
        small.begin(4);
        small.begin(3);
        small.begin(6001);
        Make.feed(small, "\1\2\3\4\1");
        small.encode();
        Due.same("resets by the limit of 4", small.count(4), 2);
    }

    private static void resetsAndRescalingsToo() {
        EscapeCoder small = new EscapeCoder();
        small.begin(4);
        Make.feed(small, "\1\2\3\4\1");
        small.encode();
        Due.same("resets", small.count(4), 2);
        small.begin(4);
        Due.same("resets, begun", small.count(4), 0);

        EscapeCoder scaled = Make.encoded(Make.repeat('a', 300));
        Due.same("rescalings", scaled.count(3), 1);
        scaled.begin(4);
        Due.same("rescalings, begun", scaled.count(3), 0);
    }

    private static void limitIsObeyed() {
        String text = "\1\2\3\4\1";
        int[] limits = {4, 5, 6, 10, 11};
        int[] resets = {2, 2, 1, 1, 0};
        int[] nodes = {0, 0, 3, 0, 11};
        for (int i = 0; i < limits.length; i++) {
            EscapeCoder coder = new EscapeCoder();
            coder.begin(limits[i]);
            Make.feed(coder, text);
            coder.encode();
            Due.same("resets with the limit " + limits[i], coder.count(4), resets[i]);
            Due.same("nodes with the limit " + limits[i], coder.count(5), nodes[i]);
            Due.same("decode() with the limit " + limits[i], coder.decode(), 5);
        }
    }

    private static void greatestLimitIsObeyed() {
        EscapeCoder coder = new EscapeCoder();
        coder.begin(6000);
        coder.push(8);
        coder.decode();
        Due.same("resets with the limit 6000", coder.count(4), 0);
        Due.yes("nodes above 2000 with the limit 6000", coder.count(5) > 2000);
    }
}
