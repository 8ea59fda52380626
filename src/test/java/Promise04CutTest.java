/** Promise 4: the text's first n bytes stay alone; false if n is below 0 or above its size. */
public final class Promise04CutTest {
    public static void main(String[] args) {
        EscapeCoder coder = Make.encoded("abcde");
        int codeBytes = coder.size(Make.CODE);
        coder.decode();
        for (int n : new int[] {-1, 6, 7, Integer.MIN_VALUE, Integer.MAX_VALUE}) {
            Due.no("cut(" + n + ")", coder.cut(n));
        }
        Make.textDue("wrong cuts", coder, Make.TEXT, "abcde");
        Due.yes("cut(5)", coder.cut(5));
        Make.textDue("cut(5)", coder, Make.TEXT, "abcde");
        Due.yes("cut(2)", coder.cut(2));
        Make.textDue("cut(2)", coder, Make.TEXT, "ab");
        Due.no("cut(3) of two", coder.cut(3));
        Make.feed(coder, "x");
        Make.textDue("fed behind the cut", coder, Make.TEXT, "abx");
        Due.same("the code stays", coder.size(Make.CODE), codeBytes);
        Make.textDue("the output stays", coder, Make.OUTPUT, "abcde");
        Due.same("the model stays", coder.learnt(0, 0, 0, 'e'), 1);
        Due.yes("cut(0)", coder.cut(0));
        Make.textDue("cut(0)", coder, Make.TEXT, "");
        Due.yes("cut(0) of none", coder.cut(0));
        Due.no("cut(1) of none", coder.cut(1));
        Due.same("encode()", coder.encode(), 5);
        Due.end();
    }
}
