/** Makes coders in states that tests need, and compares whole rows of answers. */
final class Make {
    static final int TEXT = 0;
    static final int CODE = 1;
    static final int OUTPUT = 2;

    private Make() {
    }

    static EscapeCoder withText(String text) {
        EscapeCoder coder = new EscapeCoder();
        feed(coder, text);
        return coder;
    }

    static EscapeCoder withCode(int... bytes) {
        EscapeCoder coder = new EscapeCoder();
        push(coder, bytes);
        return coder;
    }

    static EscapeCoder begun(int limit, String text) {
        EscapeCoder coder = new EscapeCoder();
        Due.yes("begin(" + limit + ")", coder.begin(limit));
        feed(coder, text);
        return coder;
    }

    static EscapeCoder encoded(int limit, String text) {
        EscapeCoder coder = begun(limit, text);
        coder.encode();
        return coder;
    }

    static EscapeCoder encoded(String text) {
        EscapeCoder coder = withText(text);
        coder.encode();
        return coder;
    }

    static void feed(EscapeCoder coder, String text) {
        for (int i = 0; i < text.length(); i++) {
            Due.yes("feed", coder.feed(text.charAt(i)));
        }
    }

    static void push(EscapeCoder coder, int... bytes) {
        for (int b : bytes) {
            Due.yes("push", coder.push(b));
        }
    }

    /** All of a row, its size and that nothing stands behind it. */
    static void bytesDue(String when, EscapeCoder coder, int which, int... want) {
        Due.same(when + ": size(" + which + ")", coder.size(which), want.length);
        for (int i = 0; i < want.length; i++) {
            Due.same(when + ": at(" + which + ", " + i + ")", coder.at(which, i), want[i]);
        }
        Due.same(when + ": at behind", coder.at(which, want.length), EscapeCoder.BAD);
    }

    static void textDue(String when, EscapeCoder coder, int which, String want) {
        bytesDue(when, coder, which, want.chars().toArray());
    }

    static void countsDue(String when, EscapeCoder coder, long... want) {
        for (int what = 0; what < want.length; what++) {
            Due.same(when + ": count(" + what + ")", coder.count(what), want[what]);
        }
    }

    static void stepDue(String when, EscapeCoder coder, int i, int... want) {
        for (int what = 0; what < want.length; what++) {
            Due.same(when + ": step(" + i + ", " + what + ")", coder.step(i, what), want[what]);
        }
    }

    /** A code is read, and all that comes of it is as it is due. */
    static EscapeCoder decoded(String hex, int answer, String output) {
        EscapeCoder coder = withCode(hex(hex));
        Due.same("decode() of " + hex, coder.decode(), answer);
        textDue("of " + hex, coder, OUTPUT, output);
        return coder;
    }

    static int[] hex(String digits) {
        int[] bytes = new int[digits.length() / 2];
        for (int i = 0; i < bytes.length; i++) {
            bytes[i] = Integer.parseInt(digits.substring(2 * i, 2 * i + 2), 16);
        }
        return bytes;
    }

    static String repeat(char c, int times) {
        return String.valueOf(c).repeat(times);
    }

    /** Bytes as by chance, but always the same ones. */
    static String noise(int length) {
        StringBuilder all = new StringBuilder();
        long x = 1;
        for (int i = 0; i < length; i++) {
            x = x * 1103515245 + 12345 & 0x7fffffff;
            all.append((char) (x >> 16 & 255));
        }
        return all.toString();
    }

    static String allBytes() {
        StringBuilder all = new StringBuilder();
        for (char c = 0; c < 256; c++) {
            all.append(c);
        }
        return all.toString();
    }
}
