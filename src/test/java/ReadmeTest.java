/** What README.md tells a user: its example, and what it says of calls that can't be done. */
public final class ReadmeTest {
    public static void main(String[] args) {
        theExample();
        aCodeMustComeWhole();
        aCodeNeedsItsLimit();
        aNewObjectReadsAnother();
        Due.end();
    }

    private static void theExample() {
        Due.sentence("README", "How to use it");
        EscapeCoder coder = new EscapeCoder();
        for (char c : "abracadabra".toCharArray()) {
            Due.yes("feed", coder.feed(c));
        }
        Due.same("encode()", coder.encode(), 12);
        Due.same("size(1)", coder.size(1), 12);
        Due.same("decode()", coder.decode(), 11);
        Make.textDue("the output", coder, Make.OUTPUT, "abracadabra");
        Due.same("count(1)", coder.count(1), 9);
        Due.same("step(0, 0)", coder.step(0, 0), 'a');
        Due.same("learnt(1, 'a', 0, 'b')", coder.learnt(1, 'a', 0, 'b'), 2);
    }

    private static void aCodeMustComeWhole() {
        Due.sentence("README", "a code with bytes too many or too few");
        EscapeCoder coder = Make.encoded("abracadabra");
        coder.push(0);
        Due.same("decode() with a byte more", coder.decode(), EscapeCoder.BAD);
        Make.textDue("what came", coder, Make.OUTPUT, "abracadabra");
        coder.keep(12);
        Due.same("decode()", coder.decode(), 11);
        coder.keep(11);
        Due.same("decode() with a byte less", coder.decode(), EscapeCoder.BAD);
    }

    private static void aCodeNeedsItsLimit() {
        Due.sentence("README", "it needs the limit with which it was made");
        EscapeCoder from = Make.encoded(4, "abracadabra");
        Due.same("decode() with its limit", sent(from, 4).decode(), 11);
        Due.same("decode() with another", sent(from, 6000).decode(), EscapeCoder.BAD);
    }

    private static void aNewObjectReadsAnother() {
        Due.sentence("README", "new EscapeCoder()");
        EscapeCoder to = sent(Make.encoded("abracadabra"), 2000);
        Due.same("decode()", to.decode(), 11);
        Make.textDue("the output", to, Make.OUTPUT, "abracadabra");
    }

    /** A coder that has another one's code, byte by byte. */
    private static EscapeCoder sent(EscapeCoder from, int limit) {
        EscapeCoder to = Make.begun(limit, "");
        for (int i = 0; i < from.size(Make.CODE); i++) {
            Due.yes("push", to.push(from.at(Make.CODE, i)));
        }
        return to;
    }
}
