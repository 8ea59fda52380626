/** Promise 5, "encode". The codes that are due were worked out apart from the class. */
public final class Promise05EncodeTest {
    private static final String TOLD = "The text and END are told by a model that is empty at first: the code is of them.";

    public static void main(String[] args) {
        emptyText();
        codesOfTexts();
        howManyBytes();
        modelIsEmptyAtFirst();
        codeOfBeforeGoes();
        textAndOutputStay();
        longestText();
        Due.end();
    }

    private static void emptyText() {
        Due.sentence("Promise 5", TOLD);
        codeDue("", "ff00ff0000");
        EscapeCoder coder = Make.encoded("");
        Make.countsDue("END alone", coder, 1, 0, 1, 0, 0, 0, 4278255360L, 0);
        Make.stepDue("END alone", coder, 0, 256, 1, 257, -1, 0);
    }

    private static void codesOfTexts() {
        Due.sentence("Promise 5", TOLD);
        codeDue("a", "619de21d0100");
        codeDue("\0", "00fe817e0100");
        codeDue("\377", "ff007f7f0100");
        codeDue("abcac", "614f88d77eb8dfde00");
        codeDue("abracadabra", "614f8c98539f7d2ca1286500");
        codeDue("aaaaaaaaaab", "60a6ccc0b1b7e800");
        codeDue("aab".repeat(90), "60f748b69f960333d32800");
        codeDue(Make.repeat('a', 300), "609f90b5de53f300");
    }

    private static void codeDue(String text, String hex) {
        EscapeCoder coder = Make.withText(text);
        Due.same("encode() of " + text, coder.encode(), hex.length() / 2);
        Make.bytesDue("code of " + text, coder, Make.CODE, Make.hex(hex));
    }

    private static void howManyBytes() {
        Due.sentence("Promise 5", "How many bytes it has");
        String all = Make.allBytes();
        for (int length = 0; length <= all.length(); length += 16) {
            EscapeCoder coder = Make.withText(all.substring(0, length));
            int bytes = coder.encode();
            Due.same("size(1)", coder.size(Make.CODE), bytes);
            Due.same("4 and the shifts", 4 + coder.count(2), bytes);
        }
    }

    private static void modelIsEmptyAtFirst() {
        Due.sentence("Promise 5", "told by a model that is empty at first");
        EscapeCoder coder = Make.withText("abracadabra");
        coder.encode();
        State first = new State(coder);
        Due.same("encode() again", coder.encode(), 12);
        new State(coder).sameAs("encode() again", first);
        Make.push(coder, 1);
        coder.decode();
        coder.encode();
        new State(coder).sameBut("encode() behind decode()", first, Make.OUTPUT);
    }

    private static void codeOfBeforeGoes() {
        Due.sentence("Promise 5", "the code is of them");
        EscapeCoder coder = Make.withText("a");
        Make.push(coder, 9, 9, 9, 9, 9, 9, 9, 9, 9, 9);
        Due.same("encode() over a pushed code", coder.encode(), 6);
        Make.bytesDue("code", coder, Make.CODE, Make.hex("619de21d0100"));
    }

    private static void textAndOutputStay() {
        Due.sentence("Promise 5", TOLD);
        EscapeCoder coder = Make.encoded("ab");
        coder.decode();
        coder.feed('c');
        State before = new State(coder);
        coder.encode();
        new State(coder).sameBut("behind encode()", before, Make.CODE, 3);
    }

    /** So many calls are more than the document promises. */
    private static void longestText() {
        Due.sentence("Terms, THE TEXT", "THE TEXT has bytes, 4000 at most");
        EscapeCoder coder = Make.withText(Make.noise(4000));
        Reference due = new Reference();
        Make.noise(4000).chars().forEach(due::feed);
        Due.same("encode()", coder.encode(), due.encode());
        for (int i = 0; i <= due.size(1); i++) {
            Due.same("at(1, " + i + ")", coder.at(Make.CODE, i), due.at(1, i));
        }
        Due.same("decode()", coder.decode(), 4000);
        Make.textDue("output", coder, Make.OUTPUT, Make.noise(4000));
    }
}
