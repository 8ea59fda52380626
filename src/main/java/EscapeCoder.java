import java.util.Arrays;

/**
 * Tells bytes by the odds of what came behind the two bytes before, behind the one, behind any,
 * as an ever narrower interval, and reads them again by the same odds.
 */
public final class EscapeCoder {
    public static final int BAD = -1;

    private static final int NONE = -1;
    private static final int NO_STEP = -2;
    private static final int END = 256;
    private static final int BYTE_KINDS = 256;
    private static final int GREATEST_ORDER = 2;
    private static final int TEXT_MOST = 4000;
    private static final int CODE_MOST = 8000;
    private static final int CODE_LEAST = 4;
    private static final int FIRST_LIMIT = 2000;
    private static final int LEAST_LIMIT = 4;
    private static final int GREATEST_LIMIT = 6000;

    private final ByteRow text;
    private final ByteRow code;
    private final ByteRow output;
    private final StepRow steps;
    private final Model model;
    private final Teller teller;
    private final CodeWriter writer;
    private final CodeReader reader;
    private long latestShifts;
    private long latestRange;

    public EscapeCoder() {
        text = new ByteRow(TEXT_MOST);
        code = new ByteRow(CODE_MOST);
        output = new ByteRow(TEXT_MOST);
        steps = new StepRow();
        model = new Model(FIRST_LIMIT);
        teller = new Teller(model, steps);
        writer = new CodeWriter(code);
        reader = new CodeReader(code);
    }

    public boolean begin(int limit) {
        if (limit < LEAST_LIMIT || limit > GREATEST_LIMIT) {
            return false;
        }
        text.clear();
        code.clear();
        output.clear();
        steps.clear();
        model.restart();
        model.limitTo(limit);
        latestShifts = 0;
        latestRange = 0;
        return true;
    }

    public boolean feed(int b) {
        return text.add(b);
    }

    public boolean cut(int n) {
        return text.shorten(n);
    }

    public int encode() {
        steps.clear();
        model.restart();
        writer.restart();
        for (int i = 0; i < text.length(); i++) {
            int b = text.byteAt(i);
            teller.tell(b, writer);
            model.learn(b, teller.toldOrder());
        }
        teller.tell(END, writer);
        noteEnd(writer);
        return writer.finish() ? code.length() : BAD;
    }

    public int decode() {
        steps.clear();
        model.restart();
        reader.restart();
        output.clear();
        boolean ended = readUpToEnd();
        noteEnd(reader);
        boolean whole = ended && code.length() == CODE_LEAST + reader.shifts();
        return whole ? output.length() : BAD;
    }

    public boolean push(int b) {
        return code.add(b);
    }

    public boolean change(int i, int b) {
        return code.put(i, b);
    }

    public boolean keep(int n) {
        return code.shorten(n);
    }

    public int at(int which, int i) {
        ByteRow row = rowOf(which);
        return row == null ? BAD : row.byteAt(i);
    }

    public int size(int which) {
        ByteRow row = rowOf(which);
        return row == null ? BAD : row.length();
    }

    public int step(int i, int what) {
        return steps.answer(i, what);
    }

    public long count(int what) {
        switch (what) {
            case 0:
                return steps.made();
            case 1:
                return steps.escapes();
            case 2:
                return latestShifts;
            case 3:
                return model.rescalings();
            case 4:
                return model.resets();
            case 5:
                return model.nodes();
            case 6:
                return latestRange;
            case 7:
                return model.contexts();
            default:
                return BAD;
        }
    }

    public int learnt(int order, int before, int earlier, int b) {
        int context = model.find(keyOf(order, before, earlier));
        return model.countOf(model.nodeOfByte(context, b));
    }

    public int node(int order, int before, int earlier, int i) {
        int context = model.find(keyOf(order, before, earlier));
        return model.byteOf(model.nodeAt(context, i));
    }

    /** Whether END came before the output was full. */
    private boolean readUpToEnd() {
        for (int i = 0; i <= TEXT_MOST; i++) {
            int symbol = teller.tell(NONE, reader);
            if (symbol == END) {
                return true;
            }
            if (!output.add(symbol)) {
                return false;
            }
            model.learn(symbol, teller.toldOrder());
        }
        return false;
    }

    private void noteEnd(Interval interval) {
        latestShifts = interval.shifts();
        latestRange = interval.range();
    }

    private ByteRow rowOf(int which) {
        switch (which) {
            case 0:
                return text;
            case 1:
                return code;
            case 2:
                return output;
            default:
                return null;
        }
    }

    private static boolean isByte(int b) {
        return b >= 0 && b < BYTE_KINDS;
    }

    /** One number for each context that there can be; NONE if there is none such. */
    private static int keyOf(int order, int before, int earlier) {
        if (order == 0) {
            return 0;
        }
        if (order == 1 && isByte(before)) {
            return 1 + before;
        }
        if (order == 2 && isByte(before) && isByte(earlier)) {
            return 1 + BYTE_KINDS + before * BYTE_KINDS + earlier;
        }
        return NONE;
    }

    /** Rows grow twofold and are never given back, so that later calls make nothing new. */
    private static int grown(int length, int most) {
        return Math.min(most, 2 * length);
    }

    /** Bytes one behind the other, up to a greatest number of them. */
    private static final class ByteRow {
        private static final int FIRST_ROOM = 64;

        private final int most;
        private int[] bytes;
        private int length;

        ByteRow(int most) {
            this.most = most;
            this.bytes = new int[FIRST_ROOM];
        }

        int length() {
            return length;
        }

        void clear() {
            length = 0;
        }

        boolean add(int b) {
            if (!isByte(b) || length >= most) {
                return false;
            }
            if (length >= bytes.length) {
                bytes = Arrays.copyOf(bytes, grown(length, most));
            }
            bytes[length] = b;
            length++;
            return true;
        }

        boolean put(int i, int b) {
            if (!isByte(b) || i < 0 || i >= length) {
                return false;
            }
            bytes[i] = b;
            return true;
        }

        boolean shorten(int n) {
            if (n < 0 || n > length) {
                return false;
            }
            length = n;
            return true;
        }

        int byteAt(int i) {
            return i < 0 || i >= length ? BAD : bytes[i];
        }

        /** The row as one number has one more. */
        void carry() {
            for (int i = length - 1; i >= 0; i--) {
                if (bytes[i] < BYTE_KINDS - 1) {
                    bytes[i]++;
                    return;
                }
                bytes[i] = 0;
            }
        }
    }

    /** The steps of the latest run, each packed into one number to keep the room small. */
    private static final class StepRow {
        private static final int FIRST_ROOM = 64;
        private static final int MOST = 20000;
        private static final int FIELD_BITS = 20;
        private static final int FIELD_MASK = (1 << FIELD_BITS) - 1;
        private static final int PART_SHIFT = FIELD_BITS;
        private static final int WHOLE_SHIFT = 2 * FIELD_BITS;
        private static final int ORDER_SHIFT = 3 * FIELD_BITS;
        private static final int ORDER_MASK = 3;
        private static final int ESCAPE_SHIFT = ORDER_SHIFT + 2;

        private long[] packed;
        private int made;
        private int escapes;

        StepRow() {
            packed = new long[FIRST_ROOM];
        }

        int made() {
            return made;
        }

        int escapes() {
            return escapes;
        }

        void clear() {
            made = 0;
            escapes = 0;
        }

        void add(int begins, int part, int whole, int order, boolean escape) {
            if (made < MOST) {
                if (made >= packed.length) {
                    packed = Arrays.copyOf(packed, grown(made, MOST));
                }
                packed[made] = begins
                        | (long) part << PART_SHIFT
                        | (long) whole << WHOLE_SHIFT
                        | (long) (order + 1) << ORDER_SHIFT
                        | (escape ? 1L : 0L) << ESCAPE_SHIFT;
            }
            made++;
            if (escape) {
                escapes++;
            }
        }

        int answer(int i, int what) {
            if (i < 0 || i >= made || i >= MOST) {
                return NO_STEP;
            }
            long all = packed[i];
            switch (what) {
                case 0:
                    return (int) (all & FIELD_MASK);
                case 1:
                    return (int) (all >>> PART_SHIFT & FIELD_MASK);
                case 2:
                    return (int) (all >>> WHOLE_SHIFT & FIELD_MASK);
                case 3:
                    return (int) (all >>> ORDER_SHIFT & ORDER_MASK) - 1;
                case 4:
                    return (int) (all >>> ESCAPE_SHIFT & 1);
                default:
                    return NO_STEP;
            }
        }
    }

    /** What gets narrower with each step; whether it is written or read, its kinds say. */
    private abstract static class Interval {
        private static final long FULL_RANGE = 4294967295L;
        private static final long LEAST_RANGE = 16777216L;

        private long range;
        private int shifts;

        /** Where in the whole the step goes; a writer is told so, a reader finds it out. */
        abstract int placeIn(int whole, int wanted);

        abstract void raiseLow(long by);

        abstract void shiftOnce();

        long range() {
            return range;
        }

        int shifts() {
            return shifts;
        }

        void widen() {
            range = FULL_RANGE;
            shifts = 0;
        }

        long unitOf(int whole) {
            return whole < 1 ? range : range / whole;
        }

        void narrow(int begins, int part, int whole) {
            long unit = unitOf(whole);
            raiseLow(unit * begins);
            range = begins + part == whole ? range - unit * begins : unit * part;
            // Four shifts lift any range above 0 to the least one.
            for (int i = 0; i < 4 && range < LEAST_RANGE; i++) {
                shiftOnce();
                range *= 256;
                shifts++;
            }
        }
    }

    /** Holds LOW's last four bytes itself; those above stand in the code already. */
    private static final class CodeWriter extends Interval {
        private static final long LOW_MASK = 4294967295L;

        private final ByteRow code;
        private long low;

        CodeWriter(ByteRow code) {
            this.code = code;
        }

        void restart() {
            widen();
            code.clear();
            low = 0;
        }

        @Override
        int placeIn(int whole, int wanted) {
            return wanted;
        }

        @Override
        void raiseLow(long by) {
            low += by;
            if (low > LOW_MASK) {
                low &= LOW_MASK;
                code.carry();
            }
        }

        @Override
        void shiftOnce() {
            // A code that is full takes no more; finish() drops it then.
            code.add((int) (low >>> 24));
            low = low << 8 & LOW_MASK;
        }

        /** False, and the code is empty: it would have too many bytes. */
        boolean finish() {
            if (shifts() + CODE_LEAST > CODE_MOST) {
                code.clear();
                return false;
            }
            for (int bits = 24; bits >= 0; bits -= 8) {
                code.add((int) (low >>> bits & 255));
            }
            return true;
        }
    }

    /**
     * Holds VALUE less LOW: of both, only this is asked for. It stays below RANGE, but for a code that
     * begins with four bytes of 255; of that the first step tells END, so it never grows beyond a long.
     */
    private static final class CodeReader extends Interval {
        private final ByteRow code;
        private long ahead;
        private int taken;

        CodeReader(ByteRow code) {
            this.code = code;
        }

        void restart() {
            widen();
            ahead = 0;
            taken = 0;
            for (int i = 0; i < CODE_LEAST; i++) {
                shiftOnce();
            }
        }

        @Override
        int placeIn(int whole, int wanted) {
            long unit = unitOf(whole);
            return unit < 1 ? 0 : (int) Math.min(ahead / unit, whole - 1);
        }

        @Override
        void raiseLow(long by) {
            ahead -= by;
        }

        @Override
        void shiftOnce() {
            ahead = ahead * 256 + (taken < code.length() ? code.byteAt(taken) : 0);
            taken++;
        }
    }

    /** Tells one symbol at a time, from the greatest order down, and notes the steps. */
    private static final class Teller {
        private static final int ESCAPED = -1;

        private final Model model;
        private final StepRow steps;
        private final int[] outSince;
        private final int[] liveByte;
        private final int[] liveCount;
        private int lives;
        private int liveTotal;
        private int turn;
        private int outs;
        private int toldOrder;

        Teller(Model model, StepRow steps) {
            this.model = model;
            this.steps = steps;
            this.outSince = new int[BYTE_KINDS];
            this.liveByte = new int[BYTE_KINDS];
            this.liveCount = new int[BYTE_KINDS];
        }

        int toldOrder() {
            return toldOrder;
        }

        /** A reader's symbol is not known before: NONE stands for it. */
        int tell(int symbol, Interval interval) {
            // A new turn makes all bytes be in again without a walk over them.
            turn++;
            outs = 0;
            for (int order = model.topOrder(); order >= 0; order--) {
                gather(model.find(model.keyHere(order)));
                int told = lives == 0 ? ESCAPED : tellAmongLive(order, symbol, interval);
                if (told != ESCAPED) {
                    toldOrder = order;
                    return told;
                }
            }
            toldOrder = -1;
            return tellPlainly(symbol, interval);
        }

        /** Those nodes of a context whose bytes are not OUT are live. */
        private void gather(int context) {
            lives = 0;
            liveTotal = 0;
            int node = model.firstNode(context);
            for (int i = model.nodesIn(context); i > 0 && lives < BYTE_KINDS; i--) {
                int b = model.byteOf(node);
                if (!isOut(b)) {
                    liveByte[lives] = b;
                    liveCount[lives] = model.countOf(node);
                    liveTotal += liveCount[lives];
                    lives++;
                }
                node = model.nextNode(node);
            }
        }

        private int tellAmongLive(int order, int symbol, Interval interval) {
            int whole = liveTotal + lives;
            int place = interval.placeIn(whole, liveBeginOf(symbol));
            int begins = 0;
            for (int i = 0; i < lives; i++) {
                int part = liveCount[i];
                if (place < begins + part) {
                    interval.narrow(begins, part, whole);
                    steps.add(begins, part, whole, order, false);
                    return liveByte[i];
                }
                begins += part;
            }
            interval.narrow(liveTotal, lives, whole);
            steps.add(liveTotal, lives, whole, order, true);
            putLiveOut();
            return ESCAPED;
        }

        /** Where the symbol's part begins, or the escape's if it is not there. */
        private int liveBeginOf(int symbol) {
            int begins = 0;
            for (int i = 0; i < lives; i++) {
                if (liveByte[i] == symbol) {
                    return begins;
                }
                begins += liveCount[i];
            }
            return begins;
        }

        private void putLiveOut() {
            for (int i = 0; i < lives; i++) {
                if (isByte(liveByte[i])) {
                    outSince[liveByte[i]] = turn;
                }
            }
            outs += lives;
        }

        private boolean isOut(int b) {
            return isByte(b) && outSince[b] == turn;
        }

        private int tellPlainly(int symbol, Interval interval) {
            int whole = END + 1 - outs;
            int place = interval.placeIn(whole, plainBeginOf(symbol));
            interval.narrow(place, 1, whole);
            steps.add(place, 1, whole, -1, false);
            return plainSymbolAt(place);
        }

        private int plainBeginOf(int symbol) {
            int less = 0;
            for (int b = 0; b < symbol && b < BYTE_KINDS; b++) {
                if (!isOut(b)) {
                    less++;
                }
            }
            return less;
        }

        private int plainSymbolAt(int place) {
            int less = 0;
            for (int b = 0; b < BYTE_KINDS; b++) {
                if (!isOut(b)) {
                    if (less == place) {
                        return b;
                    }
                    less++;
                }
            }
            return END;
        }
    }

    /** Contexts and their nodes, all in rows; a context's nodes are a chain through theirs. */
    private static final class Model {
        private static final int FIRST_ROOM = 64;
        private static final int BUCKETS = 256;
        private static final int GREATEST_COUNT = 255;

        private int limit;
        private int nodes;
        private int[] nodeByte;
        private int[] nodeCount;
        private int[] nodeNext;
        private int contexts;
        private int[] contextKey;
        private int[] contextFirst;
        private int[] contextLast;
        private int[] contextNodes;
        private int[] contextOlder;
        private final int[] bucketNewest;
        private int topOrder;
        private int before;
        private int earlier;
        private int rescalings;
        private int resets;

        Model(int limit) {
            this.limit = limit;
            nodeByte = new int[FIRST_ROOM];
            nodeCount = new int[FIRST_ROOM];
            nodeNext = new int[FIRST_ROOM];
            contextKey = new int[FIRST_ROOM];
            contextFirst = new int[FIRST_ROOM];
            contextLast = new int[FIRST_ROOM];
            contextNodes = new int[FIRST_ROOM];
            contextOlder = new int[FIRST_ROOM];
            bucketNewest = new int[BUCKETS];
            Arrays.fill(bucketNewest, NONE);
        }

        void limitTo(int newLimit) {
            limit = newLimit;
        }

        void restart() {
            dropAll();
            topOrder = 0;
            rescalings = 0;
            resets = 0;
        }

        int nodes() {
            return nodes;
        }

        int contexts() {
            return contexts;
        }

        int rescalings() {
            return rescalings;
        }

        int resets() {
            return resets;
        }

        int topOrder() {
            return topOrder;
        }

        /** The key of the context of an order for the bytes that came just before. */
        int keyHere(int order) {
            return keyOf(order, before, earlier);
        }

        int find(int key) {
            if (key < 0) {
                return NONE;
            }
            int context = bucketNewest[bucketOf(key)];
            for (int i = 0; i < contexts && isContext(context); i++) {
                if (contextKey[context] == key) {
                    return context;
                }
                context = contextOlder[context];
            }
            return NONE;
        }

        int nodesIn(int context) {
            return isContext(context) ? contextNodes[context] : 0;
        }

        int firstNode(int context) {
            return isContext(context) ? contextFirst[context] : NONE;
        }

        int nextNode(int node) {
            return isNode(node) ? nodeNext[node] : NONE;
        }

        int byteOf(int node) {
            return isNode(node) ? nodeByte[node] : BAD;
        }

        int countOf(int node) {
            return isNode(node) ? nodeCount[node] : 0;
        }

        int nodeOfByte(int context, int b) {
            int node = firstNode(context);
            for (int i = nodesIn(context); i > 0; i--) {
                if (byteOf(node) == b) {
                    return node;
                }
                node = nextNode(node);
            }
            return NONE;
        }

        int nodeAt(int context, int i) {
            if (i < 0 || i >= nodesIn(context)) {
                return NONE;
            }
            int node = firstNode(context);
            for (int k = 0; k < i; k++) {
                node = nextNode(node);
            }
            return node;
        }

        /** The byte was told in an order; it is learnt there and above, and is then just before. */
        void learn(int b, int toldOrder) {
            int lowest = Math.max(toldOrder, 0);
            for (int order = topOrder; order >= lowest; order--) {
                if (!learnIn(keyHere(order), b)) {
                    break;
                }
            }
            earlier = before;
            before = b;
            topOrder = Math.min(topOrder + 1, GREATEST_ORDER);
        }

        /** False: there was no room, and all nodes went. */
        private boolean learnIn(int key, int b) {
            int context = find(key);
            int node = nodeOfByte(context, b);
            if (isNode(node)) {
                if (nodeCount[node] >= GREATEST_COUNT) {
                    rescale(context);
                }
                nodeCount[node]++;
                return true;
            }
            if (nodes >= limit) {
                dropAll();
                resets++;
                return false;
            }
            addNode(isContext(context) ? context : addContext(key), b);
            return true;
        }

        private void rescale(int context) {
            int node = firstNode(context);
            for (int i = nodesIn(context); i > 0 && isNode(node); i--) {
                nodeCount[node] = (nodeCount[node] + 1) / 2;
                node = nodeNext[node];
            }
            rescalings++;
        }

        private void addNode(int context, int b) {
            if (!isContext(context)) {
                return;
            }
            growNodes();
            int node = nodes;
            nodes++;
            nodeByte[node] = b;
            nodeCount[node] = 1;
            nodeNext[node] = NONE;
            int last = contextLast[context];
            if (isNode(last)) {
                nodeNext[last] = node;
            } else {
                contextFirst[context] = node;
            }
            contextLast[context] = node;
            contextNodes[context]++;
        }

        private int addContext(int key) {
            growContexts();
            int context = contexts;
            contexts++;
            int bucket = bucketOf(key);
            contextKey[context] = key;
            contextFirst[context] = NONE;
            contextLast[context] = NONE;
            contextNodes[context] = 0;
            contextOlder[context] = bucketNewest[bucket];
            bucketNewest[bucket] = context;
            return context;
        }

        private void growNodes() {
            if (nodes >= nodeByte.length) {
                int room = grown(nodes, GREATEST_LIMIT);
                nodeByte = Arrays.copyOf(nodeByte, room);
                nodeCount = Arrays.copyOf(nodeCount, room);
                nodeNext = Arrays.copyOf(nodeNext, room);
            }
        }

        private void growContexts() {
            if (contexts >= contextKey.length) {
                int room = grown(contexts, GREATEST_LIMIT);
                contextKey = Arrays.copyOf(contextKey, room);
                contextFirst = Arrays.copyOf(contextFirst, room);
                contextLast = Arrays.copyOf(contextLast, room);
                contextNodes = Arrays.copyOf(contextNodes, room);
                contextOlder = Arrays.copyOf(contextOlder, room);
            }
        }

        /** Only the buckets in use are emptied: with a low limit this is done often. */
        private void dropAll() {
            for (int context = 0; context < contexts; context++) {
                bucketNewest[bucketOf(contextKey[context])] = NONE;
            }
            contexts = 0;
            nodes = 0;
        }

        private boolean isContext(int context) {
            return context >= 0 && context < contexts;
        }

        private boolean isNode(int node) {
            return node >= 0 && node < nodes;
        }

        private static int bucketOf(int key) {
            return (key ^ key >> 8) & BUCKETS - 1;
        }
    }
}
