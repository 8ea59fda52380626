/** Promise 5: the code of the text and END. The codes that are due were worked out apart from the class. */
public final class Promise05EncodeTest {
    public static void main(String[] args) {
        codesAreDue();
        stepsAreDue();
        codeIsMadeAnew();
        textAndOutputStay();
        leastRangeIsNotShifted();
        carriesGoUp();
        orderIsPassedOverWhenAllAreOut();
        everyByteOutLeavesEnd();
        Due.end();
    }

    private static void codesAreDue() {
        codeDue("", "ff00ff0000");
        codeDue("a", "619de21d0100");
        codeDue("abracadabra", "614f8c98539f7d2ca1286500");
        codeDue("aaaaaaaaaab", "60a6ccc0b1b7e800");
        codeDue("aab".repeat(90), "60f748b69f960333d32800");
        codeDue(Make.repeat('a', 300), "609f90b5de53f300");
    }

    private static void codeDue(String text, String hex) {
        EscapeCoder coder = Make.withText(text);
        Due.same("encode() of " + text, coder.encode(), hex.length() / 2);
        Make.bytesDue("code of " + text, coder, Make.CODE, Make.hex(hex));
    }

    private static void stepsAreDue() {
        EscapeCoder coder = Make.encoded("aaaaaaaaaab");
        Make.countsDue("aaaaaaaaaab", coder, 14, 2, 4, 0, 0, 6, 1527126016L, 3);
        Make.stepDue("first, of any", coder, 0, 97, 1, 257, -1, 0);
        Make.stepDue("order 1 has none", coder, 1, 0, 1, 2, 0, 0);
        Make.stepDue("order 2 has none", coder, 2, 0, 1, 2, 1, 0);
        Make.stepDue("order 2", coder, 3, 0, 1, 2, 2, 0);
        Make.stepDue("order 2 seven times", coder, 9, 0, 7, 8, 2, 0);
        Make.stepDue("escape of b", coder, 10, 8, 1, 9, 2, 1);
        Make.stepDue("b with a out", coder, 11, 97, 1, 256, -1, 0);
        Make.stepDue("END escapes", coder, 12, 3, 2, 5, 0, 1);
        Make.stepDue("END with a, b out", coder, 13, 254, 1, 255, -1, 0);
    }

    private static void codeIsMadeAnew() {
        EscapeCoder coder = Make.withText("a");
        Make.push(coder, 9, 9, 9, 9, 9, 9, 9, 9, 9, 9);
        Due.same("encode() over a pushed code", coder.encode(), 6);
        Make.bytesDue("code", coder, Make.CODE, Make.hex("619de21d0100"));
        Due.same("encode() again", coder.encode(), 6);
        Make.bytesDue("code again", coder, Make.CODE, Make.hex("619de21d0100"));
        Make.countsDue("counts again", coder, 3, 1, 2, 0, 0, 1, 2139160320L, 1);
    }

    private static void textAndOutputStay() {
        EscapeCoder coder = Make.encoded("ab");
        coder.decode();
        coder.feed('c');
        coder.encode();
        Make.textDue("encoded", coder, Make.TEXT, "abc");
        Make.textDue("encoded", coder, Make.OUTPUT, "ab");
    }

    /** RANGE comes to be just 16777216 in the end, which is not below it. */
    private static void leastRangeIsNotShifted() {
        EscapeCoder coder = new EscapeCoder();
        coder.begin(6);
        Make.feed(coder, "decbcbbdde");
        Due.same("encode()", coder.encode(), 13);
        Make.bytesDue("least range", coder, Make.CODE, Make.hex("644e0af9d93c8f2e285fef0000"));
        Make.countsDue("least range", coder, 17, 6, 9, 0, 3, 0, 16777216L, 0);
        Due.same("decode()", coder.decode(), 10);
        Make.countsDue("least range, read", coder, 17, 6, 9, 0, 3, 0, 16777216L, 0);
    }

    /** Texts of one letter and END push LOW over many bytes of 255; the Reference carries by itself. */
    private static void carriesGoUp() {
        for (int b = 0; b < 256; b++) {
            for (int length = 1; length < 40; length += 3) {
                sameAsReference(Make.repeat((char) b, length) + (char) 255 + (char) (255 - b));
            }
        }
    }

    private static void sameAsReference(String text) {
        EscapeCoder coder = Make.withText(text);
        Reference due = new Reference();
        text.chars().forEach(due::feed);
        Due.same("encode()", coder.encode(), due.encode());
        for (int i = 0; i < due.size(1); i++) {
            Due.same("at(1, " + i + ")", coder.at(1, i), due.at(1, i));
        }
    }

    /** Behind "aaa", END escapes from order 2; then all of orders 1 and 0 are out. */
    private static void orderIsPassedOverWhenAllAreOut() {
        EscapeCoder coder = Make.encoded("aaa");
        Make.countsDue("aaa", coder, 5, 1);
        Make.stepDue("aaa, END escapes once", coder, 3, 1, 1, 2, 2, 1);
        Make.stepDue("aaa, END", coder, 4, 255, 1, 256, -1, 0);
    }

    private static void everyByteOutLeavesEnd() {
        EscapeCoder coder = Make.encoded(Make.allBytes());
        Make.countsDue("all bytes", coder, 513, 256, 243, 0, 0, 765, 268150886L, 510);
        Make.stepDue("END's escape", coder, 511, 256, 256, 512, 0, 1);
        Make.stepDue("END alone", coder, 512, 0, 1, 1, -1, 0);
    }
}
