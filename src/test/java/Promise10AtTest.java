/** Promise 10: byte i of the text, the code or the OUTPUT; BAD if there is none such. */
public final class Promise10AtTest {
    public static void main(String[] args) {
        EscapeCoder coder = Make.withText("\0\377m");
        Make.push(coder, Make.hex("619de21d0100"));
        Make.bytesDue("no OUTPUT yet", coder, Make.OUTPUT);
        coder.decode();
        Make.bytesDue("text", coder, Make.TEXT, 0, 255, 109);
        Make.bytesDue("code", coder, Make.CODE, 97, 157, 226, 29, 1, 0);
        Make.bytesDue("output", coder, Make.OUTPUT, 97);
        int[] wrong = {-1, -2, 6, 64, 4000, 8000, Integer.MIN_VALUE, Integer.MAX_VALUE};
        for (int i : wrong) {
            for (int which = 0; which < 3; which++) {
                Due.same("at(" + which + ", " + i + ")", coder.at(which, i), EscapeCoder.BAD);
            }
        }
        for (int which : new int[] {-1, 3, 4, Integer.MIN_VALUE, Integer.MAX_VALUE}) {
            Due.same("at(" + which + ", 0)", coder.at(which, 0), EscapeCoder.BAD);
        }
        Due.end();
    }
}
