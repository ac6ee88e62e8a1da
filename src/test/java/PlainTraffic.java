import java.math.BigInteger;
import java.util.ArrayList;
import java.util.Arrays;
import java.util.LinkedHashMap;
import java.util.LinkedList;
import java.util.List;
import java.util.Map;
import java.util.TreeMap;
import java.util.TreeSet;
import java.util.regex.Matcher;
import java.util.regex.Pattern;

/**
 * The document once more, in other ways than MadeTraffic's: with lists, maps and big numbers, made
 * anew at each call. It is what random runs are compared with.
 */
final class PlainTraffic {
    static final int NONE = -1000000, BAD = -1000001, STATE = -1000002, FULL = -1000003;

    record Ask(int tick, int name, int great) { }

    record Sheet(int lane, int[] items) { }

    private final Sheet[] sheets = new Sheet[8];
    private List<Ask> trueRow = new ArrayList<>();
    private List<Ask> madeRow = new ArrayList<>();
    private final StringBuilder tape = new StringBuilder();
    // By names as in a text: "gap 3", "depth 0", "new", "great 9", "walk 0 2".
    private Map<String, Integer> told = new TreeMap<>();
    private final TreeSet<Integer> left = new TreeSet<>();
    private Long seed = null;
    private int[] house = {2, 1, 5};
    private int fault = 0;
    private int finding = 0;
    private int purse = 100;
    private List<Integer> trace = new ArrayList<>();
    private int lotsTaken;
    private BigInteger lot;

    private static boolean in(int v, int least, int most) {
        return v >= least && v <= most;
    }

    private int found(int number) {
        finding = number;
        return -1000010 - number;
    }

    private int well(int answer) {
        finding = 0;
        return answer;
    }

    int sheet(int sheet, int lane, int n) {
        if (!in(sheet, 0, 7) || !in(lane, 0, 2) || n > 60) {
            return BAD;
        }
        if (n < 0) {
            return found(4);
        }
        sheets[sheet] = new Sheet(lane, new int[n]);
        return well(n);
    }

    private boolean place(int sheet, long i, long n) {
        return i >= 0 && n >= 0 && i + n <= sheets[sheet].items.length;
    }

    int set(int sheet, int i, int v) {
        if (!in(sheet, 0, 7)) {
            return BAD;
        }
        if (sheets[sheet] == null) {
            return found(1);
        }
        if (!place(sheet, i, 1)) {
            return found(2);
        }
        int off = new int[] {24, 16, 0}[sheets[sheet].lane];
        sheets[sheet].items[i] = v << off >> off;
        return well(sheets[sheet].items[i]);
    }

    int copy(int a, int i, int b, int j, int n) {
        if (!in(a, 0, 7) || !in(b, 0, 7)) {
            return BAD;
        }
        if (sheets[a] == null || sheets[b] == null) {
            return found(1);
        }
        if (sheets[a].lane != sheets[b].lane) {
            return found(5);
        }
        if (!place(a, i, n) || !place(b, j, n)) {
            return found(2);
        }
        int[] were = sheets[a].items.clone();
        for (int k = 0; k < n; k++) {
            sheets[b].items[j + k] = were[i + k];
        }
        return well(n);
    }

    int drop(int sheet) {
        if (!in(sheet, 0, 7)) {
            return BAD;
        }
        if (sheets[sheet] == null) {
            return found(1);
        }
        int had = sheets[sheet].items.length;
        sheets[sheet] = null;
        return well(had);
    }

    int asks(int sheet, int i, int n) {
        if (!in(sheet, 0, 7) || !in(n, 1, 20)) {
            return BAD;
        }
        if (trueRow.size() + n > 40) {
            return FULL;
        }
        if (sheets[sheet] == null) {
            return found(1);
        }
        if (!place(sheet, i, 3L * n)) {
            return found(2);
        }
        List<Ask> longer = new ArrayList<>(trueRow);
        for (int k = 0; k < n; k++) {
            int[] it = Arrays.copyOfRange(sheets[sheet].items, i + 3 * k, i + 3 * k + 3);
            if (!in(it[0], 0, 9999) || !in(it[1], 0, 9) || !in(it[2], 1, 9)) {
                return BAD;
            }
            if (!longer.isEmpty() && it[0] < longer.get(longer.size() - 1).tick) {
                return BAD;
            }
            longer.add(new Ask(it[0], it[1], it[2]));
        }
        trueRow = longer;
        return well(trueRow.size());
    }

    private static int gap(List<Ask> row, int i) {
        return row.get(i).tick - (i == 0 ? 0 : row.get(i - 1).tick);
    }

    private static int depth(List<Ask> row, int i) {
        TreeSet<Integer> others = new TreeSet<>();
        for (int j = i - 1; j >= 0; j--) {
            if (row.get(j).name == row.get(i).name) {
                return others.size();
            }
            others.add(row.get(j).name);
        }
        return NONE;
    }

    int told(int row, int i, int what) {
        if (!in(row, 0, 1) || i < 0 || !in(what, 0, 4)) {
            return BAD;
        }
        List<Ask> asked = row == 0 ? trueRow : madeRow;
        if (i >= asked.size()) {
            return NONE;
        }
        Ask a = asked.get(i);
        return new int[] {a.tick, a.name, a.great, depth(asked, i), gap(asked, i)}[what];
    }

    int came(int d) {
        if (!in(d, 0, 10)) {
            return BAD;
        }
        int many = 0;
        for (int i = 0; i < trueRow.size(); i++) {
            many += depth(trueRow, i) == (d == 10 ? NONE : d) ? 1 : 0;
        }
        return many;
    }

    int feed(long w, int n) {
        if (!in(n, 1, 8)) {
            return BAD;
        }
        if (tape.length() + n > 400) {
            return FULL;
        }
        byte[] all = java.nio.ByteBuffer.allocate(8).putLong(w).array();
        for (int i = 8 - n; i < 8; i++) {
            tape.append((char) (all[i] & 255));
        }
        return tape.length();
    }

    private static final Pattern TOKEN = Pattern.compile("([a-z]+)|([0-9]+)|(;)|[^ \n]", Pattern.DOTALL);

    int model() {
        String text = tape.toString();
        tape.setLength(0);
        Map<String, Integer> now = new TreeMap<>(told);
        Matcher m = TOKEN.matcher(text);
        String telling = "";
        while (m.find()) {
            int number = faultOf(telling, m);
            if (number != 0) {
                fault = number;
                return -1000100 - m.start();
            }
            telling += m.group() + " ";
            if (m.group().equals(";")) {
                tell(now, telling.split(" "));
                telling = "";
            }
        }
        if (!telling.isEmpty()) {
            fault = 1;
            return -1000100 - text.length();
        }
        told = now;
        int many = 0;
        for (int w : told.values()) {
            many += w != 0 ? 1 : 0;
        }
        return many;
    }

    private static final Map<String, int[][]> LIMITS = Map.of("gap", new int[][] {{0, 9}, {0, 99}},
            "depth", new int[][] {{0, 9}, {0, 99}}, "new", new int[][] {{0, 99}},
            "great", new int[][] {{1, 9}, {0, 99}}, "walk", new int[][] {{0, 2}, {0, 2}, {0, 99}});

    private static int faultOf(String telling, Matcher m) {
        if (telling.isEmpty()) {
            return LIMITS.containsKey(m.group()) ? 0 : 1;
        }
        String[] ahead = telling.split(" ");
        int[][] limits = LIMITS.get(ahead[0]);
        if (ahead.length > limits.length) {
            return m.group(3) != null ? 0 : 1;
        }
        if (m.group(2) == null || m.group().length() > 4) {
            return 1;
        }
        int[] limit = limits[ahead.length - 1];
        return in(Integer.parseInt(m.group()), limit[0], limit[1]) ? 0 : 2;
    }

    private static void tell(Map<String, Integer> now, String[] tokens) {
        StringBuilder key = new StringBuilder(tokens[0]);
        for (int i = 1; i < tokens.length - 2; i++) {
            key.append(' ').append(Integer.parseInt(tokens[i]));
        }
        now.put(key.toString(), Integer.parseInt(tokens[tokens.length - 2]));
    }

    int fault() {
        return fault;
    }

    private static List<String> keys(int part) {
        List<String> keys = new ArrayList<>();
        for (int i = 0; i < (part == 3 ? 9 : 10); i++) {
            keys.add(part == 0 ? "gap " + i : part == 1 ? "depth " + i : part == 2 ? "great " + i
                    : "walk " + i / 3 + " " + i % 3);
        }
        if (part == 1) {
            keys.add("new");
        }
        return keys;
    }

    private int told(String key) {
        return told.getOrDefault(key, 0);
    }

    int weight(int part, int i) {
        if (!in(part, 0, 3) || !in(i, part == 2 ? 1 : 0, keys(part).size() - 1)) {
            return BAD;
        }
        return told(keys(part).get(i));
    }

    int leave(int part, int is) {
        if (!in(part, 0, 3) || !in(is, 0, 1)) {
            return BAD;
        }
        int was = left.contains(part) ? 1 : 0;
        if (is == 1) {
            left.add(part);
        } else {
            left.remove(part);
        }
        return was;
    }

    private long takeLot() {
        lotsTaken++;
        lot = lot.multiply(new BigInteger("6364136223846793005")).add(new BigInteger("1442695040888963407"))
                .mod(BigInteger.ONE.shiftLeft(64));
        return lot.shiftRight(33).longValueExact();
    }

    /** Draws one of the weights; -1 if all are 0. */
    private int draw(List<Integer> weights) {
        List<Integer> urn = new ArrayList<>();
        for (int i = 0; i < weights.size(); i++) {
            for (int j = 0; j < weights.get(i); j++) {
                urn.add(i);
            }
        }
        return urn.isEmpty() ? -1 : urn.get((int) (takeLot() % urn.size()));
    }

    private List<Integer> weights(int part, TreeSet<Integer> out) {
        List<Integer> weights = new ArrayList<>();
        for (String key : keys(part)) {
            weights.add(out.contains(part) ? 0 : told(key));
        }
        return weights;
    }

    private List<Ask> makeRow(long from, int n, TreeSet<Integer> out) {
        lot = BigInteger.valueOf(from);
        lotsTaken = 0;
        List<Ask> row = new ArrayList<>();
        LinkedList<Integer> latestFirst = new LinkedList<>();
        int tick = 0;
        int state = 0;
        for (int i = 0; i < n; i++) {
            int gap = draw(weights(0, out));
            tick = Math.min(9999, tick + (gap < 0 ? 1 : gap));
            int many = latestFirst.size();
            List<Integer> names = weights(1, out);
            List<Integer> chances = new ArrayList<>(names.subList(0, many));
            if (many < 10) {
                chances.add(names.get(10));
            }
            int d = draw(chances);
            Integer name = 0;
            if (d == many || (d < 0 && many == 0)) {
                while (latestFirst.contains(name)) {
                    name++;
                }
            } else {
                name = latestFirst.remove(Math.max(d, 0));
            }
            latestFirst.addFirst(name);
            int great = draw(weights(2, out));
            row.add(new Ask(tick, name, Math.min(9, (great < 0 ? 1 : great) + state)));
            int next = draw(weights(3, out).subList(3 * state, 3 * state + 3));
            state = next < 0 ? state : next;
        }
        return row;
    }

    int make(long from, int n) {
        if (!in(n, 0, 40)) {
            return BAD;
        }
        seed = from;
        madeRow = makeRow(from, n, left);
        return lotsTaken;
    }

    int stretch(int f) {
        if (!in(f, 1, 4)) {
            return BAD;
        }
        seed = null;
        List<Ask> row = new ArrayList<>();
        for (Ask a : trueRow) {
            for (int j = 0; j < f; j++) {
                row.add(new Ask(a.tick, (a.name + j) % 10, a.great));
            }
        }
        madeRow = row.subList(0, Math.min(40, row.size()));
        return madeRow.size();
    }

    int house(int cache, int hit, int miss) {
        if (!in(cache, 1, 6) || !in(hit, 1, 9) || !in(miss, 0, 99)) {
            return BAD;
        }
        house = new int[] {cache, hit, miss};
        return 1;
    }

    private int[] numbers(List<Ask> row, int k) {
        int[] numbers = new int[6];
        LinkedHashMap<Integer, Boolean> cache = new LinkedHashMap<>(16, 0.75f, true);
        TreeSet<Integer> names = new TreeSet<>();
        List<Integer> ends = new ArrayList<>();
        for (int i = 0; i < row.size(); i++) {
            Ask a = row.get(i);
            int takes = house[1];
            if (cache.get(a.name) != null) {
                numbers[0]++;
            } else {
                takes += house[2] + a.great;
                cache.put(a.name, true);
                if (cache.size() > house[0]) {
                    cache.remove(cache.keySet().iterator().next());
                    numbers[5]++;
                }
            }
            names.add(a.name);
            int comes = k > 0 && i >= k ? ends.get(i - k) + gap(row, i) : a.tick;
            int begins = i == 0 ? comes : Math.max(comes, ends.get(i - 1));
            ends.add(begins + takes);
            numbers[1] += begins - comes;
            numbers[2] = Math.max(numbers[2], begins - comes);
            numbers[3] = begins + takes;
        }
        numbers[4] = names.size();
        return numbers;
    }

    private List<Ask> half(int first) {
        List<Ask> half = new ArrayList<>();
        for (int i = first; i < trueRow.size(); i += 2) {
            half.add(trueRow.get(i));
        }
        return half;
    }

    int number(int row, int what, int k) {
        if (!in(row, 0, 3) || !in(what, 0, 5) || !in(k, 0, 4)) {
            return BAD;
        }
        return numbers(row == 0 ? trueRow : row == 1 ? madeRow : half(row - 2), k)[what];
    }

    private int likeBits(List<Ask> row, int k) {
        int bits = 0;
        for (int what = 0; what < 6; what++) {
            int far = Math.abs(numbers(row, k)[what] - numbers(trueRow, k)[what]);
            int halves = Math.abs(numbers(half(0), k)[what] - numbers(half(1), k)[what]);
            bits += far <= halves ? 1 << what : 0;
        }
        return bits;
    }

    int unlike(int k) {
        return in(k, 0, 4) ? 63 - likeBits(madeRow, k) : BAD;
    }

    int worth(int part, int k) {
        if (!in(part, 0, 3) || !in(k, 0, 4)) {
            return BAD;
        }
        if (seed == null) {
            return STATE;
        }
        TreeSet<Integer> out = new TreeSet<>(left);
        out.add(part);
        int likeWithout = likeBits(makeRow(seed, madeRow.size(), out), k);
        return likeBits(madeRow, k) & (63 - likeWithout);
    }

    private int costOf(int part, List<Integer> weights) {
        int all = 0;
        int cost = 0;
        for (int w : weights) {
            all += w;
            cost += w != 0 ? 8 : 0;
        }
        for (int i = 0; part != 3 && i < trueRow.size(); i++) {
            int d = depth(trueRow, i);
            int at = part == 0 ? gap(trueRow, i) : part == 2 ? trueRow.get(i).great : d == NONE ? 10 : d;
            int w = at < weights.size() ? weights.get(at) : 0;
            if (w == 0) {
                return NONE;
            }
            int b = 0;
            while (w * Math.pow(2, b) < all) {
                b++;
            }
            cost += b;
        }
        return cost;
    }

    int cost(int part) {
        return in(part, 0, 3) ? costOf(part, weights(part, left)) : BAD;
    }

    private static List<Integer> grid(int shape, int fresh) {
        List<Integer> weights = new ArrayList<>();
        for (int d = 0; d < 10; d++) {
            weights.add(shape == 0 ? 9 : shape == 1 ? 10 - d : shape == 2 ? 9 / (d + 1) : d == 0 ? 9 : 1);
        }
        weights.add(fresh);
        return weights;
    }

    int best(int what) {
        if (!in(what, 0, 1)) {
            return BAD;
        }
        if (trueRow.isEmpty()) {
            return STATE;
        }
        TreeMap<Integer, Integer> bests = new TreeMap<>();
        for (int shape = 0; shape < 4; shape++) {
            for (int fresh = 1; fresh < 10; fresh++) {
                int cost = costOf(1, grid(shape, fresh));
                if (cost != NONE) {
                    bests.putIfAbsent(cost, 10 * shape + fresh);
                }
            }
        }
        return what == 0 ? bests.firstEntry().getValue() : bests.firstKey();
    }

    private void tellNames(List<Integer> weights) {
        for (int i = 0; i < 11; i++) {
            told.put(keys(1).get(i), weights.get(i));
        }
    }

    int shape(int shape, int fresh) {
        if (!in(shape, 0, 3) || !in(fresh, 1, 9)) {
            return BAD;
        }
        tellNames(grid(shape, fresh));
        return 1;
    }

    int learn(int r, int k, long from) {
        if (!in(r, 0, 9) || !in(k, 0, 9)) {
            return BAD;
        }
        if (purse + r < 10) {
            return STATE;
        }
        purse = purse + r - 10;
        lot = BigInteger.valueOf(from);
        List<Integer> weights = new ArrayList<>();
        for (int d = 0; d < 11; d++) {
            weights.add(came(d) < k ? 0 : Math.max(0, came(d) + (int) (takeLot() % (2 * r + 1)) - r));
        }
        tellNames(weights);
        return purse;
    }

    int guess(int r, int n, int what) {
        if (!in(r, 0, 4) || !in(n, 1, 3) || !in(what, 0, 1)) {
            return BAD;
        }
        // Counts by what is seen: ways with someone in, and without.
        Map<List<Integer>, int[]> ways = new LinkedHashMap<>();
        int noises = 2 * r + 1;
        int all = (int) Math.pow(noises, n);
        for (int in = 0; in < 2; in++) {
            for (int noise = 0; noise < all; noise++) {
                List<Integer> seen = new ArrayList<>();
                for (int i = 0, rest = noise; i < n; i++, rest /= noises) {
                    seen.add(7 + in + rest % noises);
                }
                ways.computeIfAbsent(seen, s -> new int[2])[in]++;
            }
        }
        int right = 0;
        for (int[] w : ways.values()) {
            right += Math.max(w[0], w[1]);
        }
        BigInteger common = BigInteger.valueOf(right).gcd(BigInteger.valueOf(2L * all));
        return (what == 0 ? right : 2 * all) / common.intValue();
    }

    int kind(int part) {
        if (!in(part, 0, 3)) {
            return BAD;
        }
        for (int w : weights(part, left)) {
            if (w != 0) {
                return part + 1;
            }
        }
        return 5;
    }

    int as(int part, int kind) {
        if (!in(part, 0, 3) || !in(kind, 0, 5)) {
            return BAD;
        }
        for (int is = kind(part); is >= 0; is = is == 4 ? 3 : is == 0 ? -1 : 0) {
            if (is == kind) {
                return well(part);
            }
        }
        return found(3);
    }

    private int begin(int part, int body) {
        trace.add(body);
        int size = 0;
        for (int w : weights(part, new TreeSet<>())) {
            size += w;
        }
        switch (body) {
            case 10: return size;
            case 11: return begin(part, 10) + begin(part, bodyOf(part, 1));
            case 12: return 2 * begin(part, 10);
            case 13: return begin(part, 12) - begin(part, bodyOf(part, 1));
            case 14: return -begin(part, 10);
            case 20: return part;
            case 21: return begin(part, 20) + trueRow.size();
            case 22: return begin(part, 20) + 100;
            default: return 2 * begin(part, 22);
        }
    }

    private int bodyOf(int part, int what) {
        int[][] bodies = {{10, 10, 11, 12, 13, 14}, {20, 20, 21, 22, 23, 20}};
        return bodies[what][kind(part)];
    }

    int ask(int part, int what) {
        if (!in(part, 0, 3) || !in(what, 0, 1)) {
            return BAD;
        }
        trace = new ArrayList<>();
        return begin(part, bodyOf(part, what));
    }

    int trace(int i) {
        return in(i, 0, Math.min(16, trace.size()) - 1) ? trace.get(i) : NONE;
    }

    int count(int what) {
        int empties = 0;
        for (int part = 0; part < 4; part++) {
            empties += kind(part) == 5 ? 1 : 0;
        }
        int there = 0;
        for (Sheet s : sheets) {
            there += s == null ? 0 : 1;
        }
        int[] counts = {there, trueRow.size(), madeRow.size(), empties, purse, tape.length()};
        return in(what, 0, 5) ? counts[what] : BAD;
    }

    int status() {
        return finding;
    }
}
