import java.math.BigInteger;
import java.util.ArrayList;
import java.util.HashMap;
import java.util.HashSet;
import java.util.LinkedHashMap;
import java.util.List;
import java.util.Map;
import java.util.Set;

/** The document word for word, with LOW and VALUE as whole numbers of any size and no care for speed. */
final class Reference {
    private static final int END = 256;
    private static final BigInteger B256 = BigInteger.valueOf(256);

    private final List<Integer> text = new ArrayList<>();
    private final List<Integer> code = new ArrayList<>();
    private final List<Integer> output = new ArrayList<>();
    private final int mostText;
    private int limit = 2000;

    private final Map<List<Integer>, LinkedHashMap<Integer, Integer>> model = new HashMap<>();
    private final List<int[]> steps = new ArrayList<>();
    private BigInteger low = BigInteger.ZERO;
    private BigInteger value = BigInteger.ZERO;
    private int taken;
    private boolean reading;
    private long range;
    private long shifts;
    private long rescalings;
    private long resets;
    private int toldOrder;

    Reference() {
        this(4000);
    }

    /** With another greatest text than the document's, for what no text of 4000 bytes reaches. */
    Reference(int mostText) {
        this.mostText = mostText;
    }

    boolean begin(int newLimit) {
        if (newLimit < 4 || newLimit > 6000) {
            return false;
        }
        text.clear();
        code.clear();
        output.clear();
        forget();
        range = 0;
        limit = newLimit;
        return true;
    }

    boolean feed(int b) {
        return addTo(text, b, mostText);
    }

    boolean cut(int n) {
        return shorten(text, n);
    }

    boolean push(int b) {
        return addTo(code, b, 8000);
    }

    boolean keep(int n) {
        return shorten(code, n);
    }

    boolean change(int i, int b) {
        if (i < 0 || i >= code.size() || b < 0 || b > 255) {
            return false;
        }
        code.set(i, b);
        return true;
    }

    int encode() {
        start(false);
        code.clear();
        for (int i = 0; i < text.size(); i++) {
            List<Integer> past = text.subList(0, i);
            tell(past, text.get(i));
            learn(past, text.get(i));
        }
        tell(text, END);
        int length = (int) (4 + shifts);
        if (length > 8000) {
            return -1;
        }
        for (int i = length - 1; i >= 0; i--) {
            code.add(low.shiftRight(8 * i).intValue() & 255);
        }
        return length;
    }

    int decode() {
        start(true);
        output.clear();
        value = BigInteger.ZERO;
        taken = 0;
        for (int i = 0; i < 4; i++) {
            takeByte();
        }
        while (true) {
            int symbol = tell(output, -1);
            if (symbol == END) {
                return code.size() == 4 + shifts ? output.size() : -1;
            }
            if (output.size() == 4000) {
                return -1;
            }
            learn(output, symbol);
            output.add(symbol);
        }
    }

    int at(int which, int i) {
        List<Integer> row = row(which);
        return row == null || i < 0 || i >= row.size() ? -1 : row.get(i);
    }

    int size(int which) {
        List<Integer> row = row(which);
        return row == null ? -1 : row.size();
    }

    int step(int i, int what) {
        boolean there = i >= 0 && i < steps.size() && i < 20000 && what >= 0 && what <= 4;
        return there ? steps.get(i)[what] : -2;
    }

    long count(int what) {
        switch (what) {
            case 0: return steps.size();
            case 1: return steps.stream().filter(s -> s[4] == 1).count();
            case 2: return shifts;
            case 3: return rescalings;
            case 4: return resets;
            case 5: return nodes();
            case 6: return range;
            case 7: return model.size();
            default: return -1;
        }
    }

    int learnt(int order, int before, int earlier, int b) {
        return context(order, before, earlier).getOrDefault(b, 0);
    }

    int node(int order, int before, int earlier, int i) {
        List<Integer> bytes = new ArrayList<>(context(order, before, earlier).keySet());
        return i < 0 || i >= bytes.size() ? -1 : bytes.get(i);
    }

    private static boolean addTo(List<Integer> row, int b, int most) {
        return b >= 0 && b <= 255 && row.size() < most && row.add(b);
    }

    private static boolean shorten(List<Integer> row, int n) {
        if (n < 0 || n > row.size()) {
            return false;
        }
        row.subList(n, row.size()).clear();
        return true;
    }

    private List<Integer> row(int which) {
        return which == 0 ? text : which == 1 ? code : which == 2 ? output : null;
    }

    private LinkedHashMap<Integer, Integer> context(int order, int before, int earlier) {
        List<Integer> key = order == 0 ? List.of()
                : order == 1 ? List.of(before)
                : order == 2 ? List.of(earlier, before)
                : List.of(-1);
        return model.getOrDefault(key, new LinkedHashMap<>());
    }

    private int nodes() {
        int sum = 0;
        for (Map<Integer, Integer> context : model.values()) {
            sum += context.size();
        }
        return sum;
    }

    private void forget() {
        model.clear();
        steps.clear();
        shifts = 0;
        rescalings = 0;
        resets = 0;
    }

    private void start(boolean toRead) {
        forget();
        low = BigInteger.ZERO;
        range = 4294967295L;
        reading = toRead;
    }

    private void takeByte() {
        int next = taken < code.size() ? code.get(taken) : 0;
        value = value.multiply(B256).add(BigInteger.valueOf(next));
        taken++;
    }

    private int place(int whole) {
        BigInteger place = value.subtract(low).divide(BigInteger.valueOf(range / whole));
        return place.min(BigInteger.valueOf(whole - 1)).intValueExact();
    }

    private void make(int a, int f, int t, int order, int escape) {
        steps.add(new int[] {a, f, t, order, escape});
        long r = range / t;
        low = low.add(BigInteger.valueOf(r * a));
        range = a + f == t ? range - r * a : r * f;
        while (range < 16777216) {
            low = low.multiply(B256);
            range *= 256;
            shifts++;
            if (reading) {
                takeByte();
            }
        }
    }

    private static List<Integer> last(List<Integer> past, int order) {
        return List.copyOf(past.subList(past.size() - order, past.size()));
    }

    private int tell(List<Integer> past, int symbol) {
        Set<Integer> out = new HashSet<>();
        for (int order = Math.min(2, past.size()); order >= 0; order--) {
            Map<Integer, Integer> in = new LinkedHashMap<>(model.getOrDefault(last(past, order), new LinkedHashMap<>()));
            in.keySet().removeAll(out);
            if (in.isEmpty()) {
                continue;
            }
            int told = tellAmong(in, order, symbol);
            if (told >= 0) {
                toldOrder = order;
                return told;
            }
            out.addAll(in.keySet());
        }
        toldOrder = -1;
        List<Integer> rest = new ArrayList<>();
        for (int s = 0; s <= END; s++) {
            if (!out.contains(s)) {
                rest.add(s);
            }
        }
        int place = reading ? place(rest.size()) : rest.indexOf(symbol);
        int told = rest.get(place);
        make(place, 1, rest.size(), -1, 0);
        return told;
    }

    private int tellAmong(Map<Integer, Integer> in, int order, int symbol) {
        int total = in.values().stream().mapToInt(Integer::intValue).sum();
        int whole = total + in.size();
        int place = reading ? place(whole) : -1;
        int a = 0;
        for (Map.Entry<Integer, Integer> node : in.entrySet()) {
            int f = node.getValue();
            if (reading ? place >= a && place < a + f : node.getKey() == symbol) {
                make(a, f, whole, order, 0);
                return node.getKey();
            }
            a += f;
        }
        make(total, in.size(), whole, order, 1);
        return -1;
    }

    private void learn(List<Integer> past, int b) {
        for (int order = Math.min(2, past.size()); order >= Math.max(0, toldOrder); order--) {
            LinkedHashMap<Integer, Integer> context = model.get(last(past, order));
            if (context != null && context.containsKey(b)) {
                if (context.get(b) == 255) {
                    context.replaceAll((key, old) -> old - old / 2);
                    rescalings++;
                }
                context.merge(b, 1, Integer::sum);
            } else if (nodes() == limit) {
                model.clear();
                resets++;
                return;
            } else {
                model.computeIfAbsent(last(past, order), key -> new LinkedHashMap<>()).put(b, 1);
            }
        }
    }
}
