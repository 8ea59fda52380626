import java.util.Random;

/** Runs of calls by a fixed seed, every answer against that of the Reference; all promises together. */
public final class RandomRunsTest {
    private static final int MOST_CALLS = 512;

    private final Random random;
    private final String run;
    private final EscapeCoder coder = new EscapeCoder();
    private final Reference due = new Reference();
    private final int letters;
    private int calls;

    private RandomRunsTest(int seed) {
        random = new Random(seed);
        run = "run " + seed;
        int[] sizes = {1, 2, 3, 5, 20, 256};
        letters = sizes[random.nextInt(sizes.length)];
    }

    public static void main(String[] args) {
        for (int seed = 0; seed < 400; seed++) {
            new RandomRunsTest(seed).play();
        }
        Due.end();
    }

    private void play() {
        if (random.nextInt(4) > 0) {
            begin(random.nextInt(3) == 0 ? 4 + random.nextInt(5997) : 4 + random.nextInt(60));
        }
        while (calls < MOST_CALLS - 40) {
            int kind = random.nextInt(10);
            if (kind < 4) {
                feedSome();
            } else if (kind < 6) {
                damageCode();
            } else {
                look();
            }
            if (random.nextInt(6) == 0) {
                encode();
                look();
            }
            if (random.nextInt(12) == 0) {
                decode();
                look();
            }
            if (random.nextInt(40) == 0) {
                begin(random.nextInt(30));
            }
        }
        decode();
        while (calls < MOST_CALLS) {
            look();
        }
    }

    private void same(String call, long got, long want) {
        calls++;
        Due.same(run + ", call " + calls + ": " + call, got, want);
    }

    private void same(String call, boolean got, boolean want) {
        same(call, got ? 1 : 0, want ? 1 : 0);
    }

    private void begin(int limit) {
        same("begin(" + limit + ")", coder.begin(limit), due.begin(limit));
    }

    private void encode() {
        same("encode()", coder.encode(), due.encode());
    }

    private void decode() {
        same("decode()", coder.decode(), due.decode());
    }

    private int oneByte() {
        return random.nextInt(100) == 0 ? random.nextInt(300) - 20 : random.nextInt(letters) * 255 / letters;
    }

    private void feedSome() {
        int many = 1 + random.nextInt(20);
        int b = oneByte();
        boolean alike = random.nextInt(3) == 0;
        for (int i = 0; i < many && calls < MOST_CALLS - 40; i++) {
            same("feed(" + b + ")", coder.feed(b), due.feed(b));
            b = alike ? b : oneByte();
        }
        if (random.nextInt(8) == 0) {
            int n = random.nextInt(due.size(0) + 3) - 1;
            same("cut(" + n + ")", coder.cut(n), due.cut(n));
        }
    }

    private void damageCode() {
        int b = random.nextInt(258) - 1;
        int i = random.nextInt(due.size(1) + 2) - 1;
        switch (random.nextInt(8)) {
            case 0:
                same("keep(" + i + ")", coder.keep(i), due.keep(i));
                break;
            case 1:
            case 2:
                same("change(" + i + ", " + b + ")", coder.change(i, b), due.change(i, b));
                break;
            case 3:
                same("push(" + b + ")", coder.push(b), due.push(b));
                break;
            default:
                break;
        }
    }

    private void look() {
        int which = random.nextInt(5) - 1;
        int i = random.nextInt(Math.max(0, due.size(which)) + 3) - 1;
        same("at(" + which + ", " + i + ")", coder.at(which, i), due.at(which, i));
        same("size(" + which + ")", coder.size(which), due.size(which));
        int what = random.nextInt(10) - 1;
        same("count(" + what + ")", coder.count(what), due.count(what));
        int s = random.nextInt((int) due.count(0) + 2) - 1;
        int part = random.nextInt(7) - 1;
        same("step(" + s + ", " + part + ")", coder.step(s, part), due.step(s, part));
        lookAtModel();
    }

    private void lookAtModel() {
        int order = random.nextInt(5) - 1;
        int from = random.nextInt(2) == 0 ? 0 : 2;
        int k = 2 + random.nextInt(Math.max(1, due.size(from)));
        int before = due.at(from, k - 1);
        int earlier = due.at(from, k - 2);
        int b = due.at(from, k);
        String of = "(" + order + ", " + before + ", " + earlier + ", ";
        same("learnt" + of + b + ")", coder.learnt(order, before, earlier, b), due.learnt(order, before, earlier, b));
        int i = random.nextInt(6) - 1;
        same("node" + of + i + ")", coder.node(order, before, earlier, i), due.node(order, before, earlier, i));
    }
}
