/** Promise 9: the code's first n bytes stay alone; false if n is below 0 or above its size. */
public final class Promise09KeepTest {
    public static void main(String[] args) {
        EscapeCoder coder = Make.withCode(1, 2, 3, 4);
        Make.feed(coder, "abcdefgh");
        for (int n : new int[] {-1, 5, 8, Integer.MIN_VALUE, Integer.MAX_VALUE}) {
            Due.no("keep(" + n + ")", coder.keep(n));
        }
        Make.bytesDue("wrong keeps", coder, Make.CODE, 1, 2, 3, 4);
        Due.yes("keep(4)", coder.keep(4));
        Make.bytesDue("keep(4)", coder, Make.CODE, 1, 2, 3, 4);
        Due.yes("keep(2)", coder.keep(2));
        Make.bytesDue("keep(2)", coder, Make.CODE, 1, 2);
        Due.no("keep(3) of two", coder.keep(3));
        Make.push(coder, 9);
        Make.bytesDue("pushed behind", coder, Make.CODE, 1, 2, 9);
        Due.yes("keep(0)", coder.keep(0));
        Make.bytesDue("keep(0)", coder, Make.CODE);
        Due.yes("keep(0) of none", coder.keep(0));
        Due.no("keep(1) of none", coder.keep(1));
        Make.textDue("the text stays", coder, Make.TEXT, "abcdefgh");
        whatWasCutOffIsNotRead();
        Due.end();
    }

    private static void whatWasCutOffIsNotRead() {
        EscapeCoder coder = Make.withCode(0, 0, 0, 0, 200, 200, 200);
        coder.keep(3);
        coder.decode();
        Due.same("size(2), as of zeros", coder.size(Make.OUTPUT), 4000);
        Make.countsDue("as of zeros", coder, 4001, 0, 5, 30, 0, 3, 28478804L, 3);
    }
}
