/** What it is: as many as 512 calls are promised, the last of them as well as the first. */
public final class CallsTest {
    private static final String CALLS = "An object is used for at most 512 calls after it has been made";

    public static void main(String[] args) {
        lastCallDecodes();
        lastCallAsks();
        everyCallEncodesOrDecodes();
        everyCallReadsLongOutputs();
        Due.end();
    }

    private static void lastCallDecodes() {
        Due.sentence("What it is", CALLS);
        EscapeCoder coder = Make.withText(Make.noise(510));
        Reference due = new Reference();
        Make.noise(510).chars().forEach(due::feed);
        Due.same("encode(), call 511", coder.encode(), due.encode());
        Due.same("decode(), call 512", coder.decode(), 510);
    }

    private static void lastCallAsks() {
        Due.sentence("What it is", CALLS);
        EscapeCoder coder = Make.withText(Make.noise(510));
        Reference due = new Reference();
        Make.noise(510).chars().forEach(due::feed);
        due.encode();
        Due.same("encode(), call 511", coder.encode(), due.size(1));
        Due.same("count(6), call 512", coder.count(6), due.count(6));
    }

    private static void everyCallEncodesOrDecodes() {
        Due.sentence("What it is", CALLS);
        EscapeCoder coder = Make.withText("abracadabra");
        for (int call = 11; call < 511; call += 2) {
            Due.same("encode(), call " + (call + 1), coder.encode(), 12);
            Due.same("decode(), call " + (call + 2), coder.decode(), 11);
        }
        Make.bytesDue("code", coder, Make.CODE, Make.hex("614f8c98539f7d2ca1286500"));
        Make.textDue("output", coder, Make.OUTPUT, "abracadabra");
    }

    private static void everyCallReadsLongOutputs() {
        Due.sentence("What it is", CALLS);
        EscapeCoder coder = Make.withCode(8);
        coder.decode();
        State first = new State(coder);
        for (int call = 0; call < 500; call++) {
            Due.same("decode()", coder.decode(), EscapeCoder.BAD);
        }
        new State(coder).sameAs("the last", first);
    }
}
