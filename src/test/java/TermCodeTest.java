/** Terms, THE CODE with SHIFT. The codes that are due were worked out apart from the class. */
public final class TermCodeTest {
    private static final String OF = "Terms, THE CODE";
    private static final String RANGE = "RANGE is r f, but if a + f is t, RANGE less r a";
    private static final String SHIFT = "Then, as long as RANGE is below 16777216: LOW and RANGE are 256 times as great "
            + "(a SHIFT).";
    private static final String WRITTEN = "In the end the code is LOW, written with 4 bytes and one more for each shift.";

    public static void main(String[] args) {
        lowAndRangeAtFirst();
        unitIsCutOff();
        rangeOfAPartBeforeTheLast();
        rangeOfTheLastPart();
        rangeOfTheWhole();
        rangeJustBelowIsShifted();
        leastRangeIsNotShifted();
        stepWithoutAShift();
        stepOfTwoShifts();
        lowGrowsIntoTheByteAbove();
        lowGrowsOverOneFullByte();
        lowGrowsOverTwoFullBytes();
        lowGrowsToFullBytesAlone();
        lowGrowsInManyTexts();
        zerosInFrontAreWritten();
        zerosBehindAreWritten();
        eightThousandAreNotMet();
        Due.end();
    }

    private static EscapeCoder codeDue(int limit, String text, String hex, long... counts) {
        EscapeCoder coder = Make.begun(limit, text);
        Due.same("encode()", coder.encode(), hex.length() / 2);
        Make.bytesDue("code", coder, Make.CODE, Make.hex(hex));
        Make.countsDue("counts", coder, counts);
        Due.same("decode()", coder.decode(), text.length());
        Make.countsDue("counts of decode()", coder, counts);
        return coder;
    }

    /** r is 16711935: LOW grows by 256 r, RANGE is r, and is shifted once. */
    private static void lowAndRangeAtFirst() {
        Due.sentence(OF, "LOW is 0, RANGE 4294967295 at first.");
        codeDue(2000, "", "ff00ff0000", 1, 0, 1, 0, 0, 0, 256L * 16711935, 0);
        EscapeCoder again = Make.encoded("abracadabra");
        again.cut(0);
        again.encode();
        Make.bytesDue("in a second run", again, Make.CODE, 255, 0, 255, 0, 0);
    }

    /** END of "a": 2139127680 / 256 is 8355967 and a half. */
    private static void unitIsCutOff() {
        Due.sentence(OF, "r = RANGE / t, cut off");
        codeDue(2000, "a", "619de21d0100", 3, 1, 2, 0, 0, 1, (2139127680L - 255 * 8355967L) * 256, 1);
    }

    private static void rangeOfAPartBeforeTheLast() {
        Due.sentence(OF, RANGE);
        codeDue(2000, "aaaa", "60bf361e3600", 6, 1, 2, 0, 0, 3, 178301440L, 3);
        codeDue(2000, "abcb", "614f88e449a2c300", 9, 4, 4, 0, 0, 8, 36081920L, 6);
    }

    private static void rangeOfTheLastPart() {
        Due.sentence(OF, RANGE);
        codeDue(2000, "\377", "ff007f7f0100", 3, 1, 2, 0, 0, 1, 2139160320L, 1);
        codeDue(2000, "abcac", "614f88d77eb8dfde00", 11, 5, 5, 0, 0, 10, 923542016L, 7);
    }

    /** With all bytes out, END's part is 1 of 1, and RANGE stays what it was. */
    private static void rangeOfTheWhole() {
        Due.sentence(OF, RANGE);
        EscapeCoder coder = Make.encoded(Make.allBytes());
        Make.stepDue("END", coder, 512, 0, 1, 1, -1, 0);
        Due.same("RANGE", coder.count(6), 268150886L);
        Due.same("decode()", coder.decode(), 256);
        Due.same("RANGE of decode()", coder.count(6), 268150886L);
    }

    /** RANGE comes to be 16777215 with step 24 of each. */
    private static void rangeJustBelowIsShifted() {
        Due.sentence(OF, SHIFT);
        codeDue(2000, "bbdbcdefceafcba", "61f6dae2c906641a48819ffb317800", 29, 13, 11, 0, 0, 32, 80537600L, 19);
        codeDue(2000, "ggbgeefccgaegbe", "66f1a038c635286add42691d5f7200", 28, 12, 11, 0, 0, 32, 938708480L, 19);
    }

    /** RANGE comes to be just 16777216 in the end, which is not below it. */
    private static void leastRangeIsNotShifted() {
        Due.sentence(OF, SHIFT);
        codeDue(6, "decbcbbdde", "644e0af9d93c8f2e285fef0000", 17, 6, 9, 0, 3, 0, 16777216L, 0);
    }

    /** Six a, of which the last three are told without a shift. */
    private static void stepWithoutAShift() {
        Due.sentence(OF, SHIFT);
        Due.same("shifts of four", Make.encoded("aaaa").count(2), 2);
        Due.same("shifts of five", Make.encoded("aaaaa").count(2), 2);
        codeDue(2000, Make.repeat('a', 300), "609f90b5de53f300", 302, 1, 4, 1, 0, 3, 1200884992L, 3);
    }

    /** END's RANGE is 65473, which one shift does not lift to 16777216. */
    private static void stepOfTwoShifts() {
        Due.sentence(OF, SHIFT);
        codeDue(6, "\3\2\2\1\2\1\3", "037dba4dc98a1e0b43c10000", 14, 6, 8, 0, 2, 0, 65473L * 65536, 0);
        codeDue(6, "ababdacbe", "614f3e4c314ee68dac2d7f0000", 16, 6, 9, 0, 2, 3, 2139160576L, 3);
    }

    private static void lowGrowsIntoTheByteAbove() {
        Due.sentence(OF, "LOW grows by r a");
        codeDue(6, "\346", "e61966980100", 3, 1, 2, 0, 0, 1, 2139160320L, 1);
        codeDue(2000, "\0\0\0\1\1\0\1", "001ff1563bd24800", 12, 4, 4, 0, 0, 11, 458143744L, 7);
    }

    private static void lowGrowsOverOneFullByte() {
        Due.sentence(OF, "LOW grows by r a");
        codeDue(4, "\364\350", "f4007f3f160200", 5, 2, 3, 0, 0, 3, 1073806848L, 2);
        codeDue(2000, "\375\361\357\357", "fcfc001a86c00c00", 9, 4, 4, 0, 0, 8, 45117952L, 6);
    }

    private static void lowGrowsOverTwoFullBytes() {
        Due.sentence(OF, "LOW grows by r a");
        codeDue(4, "\0\0\2\0\0\0\2", "004000000eefeffd0000", 10, 2, 6, 0, 3, 0, 264306688L, 0);
        codeDue(2000, "\375\357\346\350\377\347\367\364\365\357\351\353\356",
                "fcfafef6c3b97dc84c2f37e3000073d6936600", 27, 13, 15, 0, 0, 35, 2033359360L, 23);
    }

    /** On the way, LOW's last four bytes come to be 255 each: nothing goes into the byte above. */
    private static void lowGrowsToFullBytesAlone() {
        Due.sentence(OF, "LOW grows by r a");
        codeDue(2000, "\271\272\271\266\271\272\271\271\267\270\267\271", "b9237afd3d6fe1032d3b1ad600",
                23, 10, 9, 0, 0, 23, 3082824192L, 14);
        codeDue(15, "\21\24\20\23\20\21\25\24\23\21\25\17", "11784bda5f2b249e25ed7507218b587500",
                25, 12, 13, 0, 1, 15, 972458752L, 9);
    }

    /** Texts of one letter and END push LOW over many bytes of 255; the Reference carries by itself. */
    private static void lowGrowsInManyTexts() {
        Due.sentence(OF, "LOW grows by r a");
        for (int b = 0; b < 256; b++) {
            for (int length = 1; length < 40; length += 3) {
                sameAsReference(Make.repeat((char) b, length) + (char) 255 + (char) (255 - b));
            }
        }
    }

    private static void sameAsReference(String text) {
        EscapeCoder coder = Make.withText(text);
        Reference due = new Reference();
        text.chars().forEach(due::feed);
        Due.same("encode()", coder.encode(), due.encode());
        for (int i = 0; i < due.size(1); i++) {
            Due.same("at(1, " + i + ")", coder.at(1, i), due.at(1, i));
        }
    }

    private static void zerosInFrontAreWritten() {
        Due.sentence(OF, WRITTEN);
        codeDue(2000, "\0", "00fe817e0100", 3, 1, 2, 0, 0, 1, 2139160320L, 1);
        EscapeCoder coder = Make.encoded(Make.repeat('\0', 500));
        Due.same("4 and the shifts", coder.size(Make.CODE), 4 + coder.count(2));
        Due.same("the first", coder.at(Make.CODE, 0), 0);
        Due.same("the second", coder.at(Make.CODE, 1), 0);
        Due.same("decode()", coder.decode(), 500);
    }

    private static void zerosBehindAreWritten() {
        Due.sentence(OF, WRITTEN);
        codeDue(6, "abcd", "614f88fb4f1b9d0000", 8, 3, 5, 0, 1, 0, 539033600L, 0);
        codeDue(4, "abc", "614f890eb6dd0000", 6, 2, 4, 0, 1, 0, 1069613056L, 0);
    }

    /** No text of 4000 bytes that was found comes near to 8000; BeyondReachTest looks at the limit itself. */
    private static void eightThousandAreNotMet() {
        Due.sentence(OF, "THE CODE is a number of bytes, the highest first, 8000 at most.");
        for (int limit : new int[] {4, 5, 40, 2000, 6000}) {
            EscapeCoder coder = Make.begun(limit, Make.noise(4000));
            int bytes = coder.encode();
            Due.yes("encode() of 4000 with the limit " + limit, bytes > 4000 && bytes <= 8000);
            Due.same("decode()", coder.decode(), 4000);
        }
    }
}
