import java.util.Arrays;

public final class MadeTraffic {
    public static final int NONE = -1000000, BAD = -1000001, STATE = -1000002, FULL = -1000003;

    private static final int FINDINGS = -1000010;
    private static final int NULL = 1, PLACE = 2, KIND = 3, SIZE = 4, STORE = 5;
    private static final int FAULTS = -1000100;

    private static final int MOST_SHEETS = 8;
    private static final int MOST_LANES = 3;
    private static final int MOST_ITEMS = 60;
    private static final int MOST_ASKS = 40;
    private static final int MOST_AT_ONCE = 20;
    private static final int MOST_BYTES = 400;
    private static final int LAST_TICK = 9999;
    private static final int HOW_MANY_NAMES = 10;
    private static final int MOST_GREATNESS = 9;
    private static final int HOW_MANY_STATES = 3;
    private static final int HOW_MANY_NUMBERS = 6;
    private static final int MOST_COMERS = 4;
    private static final int FIRST_PURSE = 100;

    private static final int HOW_MANY_PARTS = 4;
    private static final int GAPS = 0, NAMES = 1, GREATNESS = 2, WALK = 3;

    // A part's weights are a row of SLOTS; of names the last slot is NEW's. A gap above 9 is
    // counted at the same slot of gaps, which no text can tell and which so stays 0.
    private static final int SLOTS = 11;
    private static final int NEW = 10;

    // A part that is not empty is of the kind one above its own number.
    private static final int KIND_PART = 0, KIND_NAMES = 2, KIND_GREAT = 3, KIND_WALK = 4, KIND_EMPTY = 5;

    private final Sheet[] sheets = new Sheet[MOST_SHEETS];
    private final Row trueRow = new Row();
    private final Row madeRow = new Row();
    private final Row otherRow = new Row();
    private final Tape tape = new Tape();
    private final Model model = new Model();
    private final Maker maker = new Maker();
    private final House house = new House();
    private final Likeness likeness = new Likeness();
    private final Asker asker = new Asker();
    private final int[] counts = new int[SLOTS];
    private final int[] tried = new int[SLOTS];
    private boolean madeBySeed = false;
    private long madeFrom = 0;
    private int latestFault = 0;
    private int latestFinding = 0;
    private int purse = FIRST_PURSE;

    public MadeTraffic() {
        for (int i = 0; i < MOST_SHEETS; i++) {
            sheets[i] = new Sheet();
        }
    }

    // ---- sheets

    public int sheet(int sheet, int lane, int n) {
        if (!isBelow(sheet, MOST_SHEETS) || !isBelow(lane, MOST_LANES) || n > MOST_ITEMS) {
            return BAD;
        }
        if (n < 0) {
            return finding(SIZE);
        }
        sheets[sheet].lay(lane, n);
        return noFinding(n);
    }

    public int set(int sheet, int i, int v) {
        if (!isBelow(sheet, MOST_SHEETS)) {
            return BAD;
        }
        Sheet there = sheets[sheet];
        if (there.isMissing) {
            return finding(NULL);
        }
        if (!there.hasPlaces(i, 1)) {
            return finding(PLACE);
        }
        return noFinding(there.put(i, v));
    }

    public int copy(int a, int i, int b, int j, int n) {
        if (!isBelow(a, MOST_SHEETS) || !isBelow(b, MOST_SHEETS)) {
            return BAD;
        }
        Sheet from = sheets[a];
        Sheet to = sheets[b];
        if (from.isMissing || to.isMissing) {
            return finding(NULL);
        }
        if (from.lane != to.lane) {
            return finding(STORE);
        }
        if (!from.hasPlaces(i, n) || !to.hasPlaces(j, n)) {
            return finding(PLACE);
        }
        System.arraycopy(from.items, i, to.items, j, n);
        return noFinding(n);
    }

    public int drop(int sheet) {
        if (!isBelow(sheet, MOST_SHEETS)) {
            return BAD;
        }
        Sheet there = sheets[sheet];
        if (there.isMissing) {
            return finding(NULL);
        }
        there.isMissing = true;
        return noFinding(there.size);
    }

    // ---- rows

    public int asks(int sheet, int i, int n) {
        if (!isBelow(sheet, MOST_SHEETS) || n < 1 || n > MOST_AT_ONCE) {
            return BAD;
        }
        if (n > MOST_ASKS - trueRow.count) {
            return FULL;
        }
        Sheet from = sheets[sheet];
        if (from.isMissing) {
            return finding(NULL);
        }
        if (!from.hasPlaces(i, 3 * n)) {
            return finding(PLACE);
        }
        if (!from.hasAsks(i, n, trueRow.lastTick())) {
            return BAD;
        }
        for (int ask = 0; ask < n; ask++) {
            int at = i + 3 * ask;
            trueRow.append(from.items[at], from.items[at + 1], from.items[at + 2]);
        }
        return noFinding(trueRow.count);
    }

    public int told(int row, int i, int what) {
        if (!isBelow(row, 2) || i < 0 || !isBelow(what, 5)) {
            return BAD;
        }
        Row asked = row == 0 ? trueRow : madeRow;
        if (i >= asked.count) {
            return NONE;
        }
        switch (what) {
            case 0:
                return asked.ticks[i];
            case 1:
                return asked.names[i];
            case 2:
                return asked.greats[i];
            case 3:
                return asked.depths[i];
            default:
                return asked.gapOf(i);
        }
    }

    public int came(int d) {
        if (!isBelow(d, SLOTS)) {
            return BAD;
        }
        trueRow.countSlots(NAMES, counts);
        return counts[d];
    }

    // ---- the model

    public int feed(long w, int n) {
        if (n < 1 || n > 8) {
            return BAD;
        }
        if (n > MOST_BYTES - tape.count) {
            return FULL;
        }
        for (int i = n - 1; i >= 0; i--) {
            tape.append((int) (w >>> (8 * i)) & 255);
        }
        return tape.count;
    }

    public int model() {
        copyWeights(model.weights, tape.read);
        int fault = tape.readAll();
        tape.count = 0;
        if (fault != 0) {
            latestFault = fault;
            return FAULTS - tape.begin;
        }
        copyWeights(tape.read, model.weights);
        return model.howManyTold();
    }

    public int fault() {
        return latestFault;
    }

    public int weight(int part, int i) {
        if (!isBelow(part, HOW_MANY_PARTS) || i < firstSlot(part) || i > lastSlot(part)) {
            return BAD;
        }
        return model.weights[part][i];
    }

    public int leave(int part, int is) {
        if (!isBelow(part, HOW_MANY_PARTS) || !isBelow(is, 2)) {
            return BAD;
        }
        int was = model.isLeftOut[part] ? 1 : 0;
        model.isLeftOut[part] = is == 1;
        return was;
    }

    public int make(long seed, int n) {
        if (n < 0 || n > MOST_ASKS) {
            return BAD;
        }
        madeBySeed = true;
        madeFrom = seed;
        return maker.makeRow(madeRow, model, seed, n, NONE);
    }

    public int stretch(int f) {
        if (f < 1 || f > 4) {
            return BAD;
        }
        madeBySeed = false;
        madeRow.count = 0;
        for (int i = 0; i < trueRow.count; i++) {
            for (int j = 0; j < f; j++) {
                int name = (trueRow.names[i] + j) % HOW_MANY_NAMES;
                madeRow.append(trueRow.ticks[i], name, trueRow.greats[i]);
            }
        }
        return madeRow.count;
    }

    // ---- the house

    public int house(int cache, int hit, int miss) {
        if (cache < 1 || cache > 6 || hit < 1 || hit > 9 || miss < 0 || miss > 99) {
            return BAD;
        }
        house.cache = cache;
        house.hit = hit;
        house.miss = miss;
        return 1;
    }

    public int number(int row, int what, int k) {
        if (!isBelow(row, 4) || !isBelow(what, HOW_MANY_NUMBERS) || !isComers(k)) {
            return BAD;
        }
        return likeness.numberOf(rowOf(row), what, house, k);
    }

    public int unlike(int k) {
        if (!isComers(k)) {
            return BAD;
        }
        likeness.stepTrue(trueRow, house, k);
        return likeness.unlikeIn(madeRow, house, k);
    }

    public int worth(int part, int k) {
        if (!isBelow(part, HOW_MANY_PARTS) || !isComers(k)) {
            return BAD;
        }
        if (!madeBySeed) {
            return STATE;
        }
        maker.makeRow(otherRow, model, madeFrom, madeRow.count, part);
        likeness.stepTrue(trueRow, house, k);
        int unlikeAsItIs = likeness.unlikeIn(madeRow, house, k);
        return likeness.unlikeIn(otherRow, house, k) & ~unlikeAsItIs;
    }

    // ---- fits

    public int cost(int part) {
        if (!isBelow(part, HOW_MANY_PARTS)) {
            return BAD;
        }
        trueRow.countSlots(part, counts);
        return costBy(model.weightsIfNot(part, NONE), counts);
    }

    public int best(int what) {
        if (!isBelow(what, 2)) {
            return BAD;
        }
        if (trueRow.count == 0) {
            return STATE;
        }
        trueRow.countSlots(NAMES, counts);
        int best = NONE;
        int least = NONE;
        for (int shape = 0; shape < 4; shape++) {
            for (int fresh = 1; fresh <= 9; fresh++) {
                layShape(shape, fresh, tried);
                int cost = costBy(tried, counts);
                if (cost != NONE && (least == NONE || cost < least)) {
                    best = 10 * shape + fresh;
                    least = cost;
                }
            }
        }
        return what == 0 ? best : least;
    }

    public int shape(int shape, int fresh) {
        if (!isBelow(shape, 4) || fresh < 1 || fresh > 9) {
            return BAD;
        }
        layShape(shape, fresh, model.weights[NAMES]);
        return 1;
    }

    // ---- shy

    public int learn(int r, int k, long seed) {
        if (!isBelow(r, 10) || !isBelow(k, 10)) {
            return BAD;
        }
        if (purse < 10 - r) {
            return STATE;
        }
        purse -= 10 - r;
        trueRow.countSlots(NAMES, counts);
        maker.learnNames(model.weights[NAMES], counts, r, k, seed);
        return purse;
    }

    public int guess(int r, int n, int what) {
        if (!isBelow(r, 5) || n < 1 || n > 3 || !isBelow(what, 2)) {
            return BAD;
        }
        int all = 1;
        int inBoth = 1;
        for (int i = 0; i < n; i++) {
            all *= 2 * r + 1;
            inBoth *= 2 * r;
        }
        // What can be seen both with someone in and without leaves the reader half a chance.
        int above = 2 * all - inBoth;
        int below = 2 * all;
        int common = commonDivisor(above, below);
        return (what == 0 ? above : below) / common;
    }

    // ---- asked

    public int kind(int part) {
        if (!isBelow(part, HOW_MANY_PARTS)) {
            return BAD;
        }
        return model.kindOf(part);
    }

    public int as(int part, int kind) {
        if (!isBelow(part, HOW_MANY_PARTS) || !isBelow(kind, 6)) {
            return BAD;
        }
        if (!isOfKind(model.kindOf(part), kind)) {
            return finding(KIND);
        }
        return noFinding(part);
    }

    public int ask(int part, int what) {
        if (!isBelow(part, HOW_MANY_PARTS) || !isBelow(what, 2)) {
            return BAD;
        }
        asker.begin(part, model, trueRow.count);
        return what == 0 ? asker.askSize() : asker.askMark();
    }

    public int trace(int i) {
        return isBelow(i, asker.begun) ? asker.bodies[i] : NONE;
    }

    public int count(int what) {
        switch (what) {
            case 0:
                return howManySheets();
            case 1:
                return trueRow.count;
            case 2:
                return madeRow.count;
            case 3:
                return model.howManyEmpty();
            case 4:
                return purse;
            case 5:
                return tape.count;
            default:
                return BAD;
        }
    }

    public int status() {
        return latestFinding;
    }

    // ---- helpers of the face

    private int finding(int number) {
        latestFinding = number;
        return FINDINGS - number;
    }

    private int noFinding(int answer) {
        latestFinding = 0;
        return answer;
    }

    private int howManySheets() {
        int many = 0;
        for (int i = 0; i < MOST_SHEETS; i++) {
            if (!sheets[i].isMissing) {
                many++;
            }
        }
        return many;
    }

    private Row rowOf(int row) {
        switch (row) {
            case 0:
                return trueRow;
            case 1:
                return madeRow;
            default:
                otherRow.becomeHalf(trueRow, row - 2);
                return otherRow;
        }
    }

    private static boolean isBelow(int number, int bound) {
        return number >= 0 && number < bound;
    }

    private static boolean isComers(int k) {
        return k >= 0 && k <= MOST_COMERS;
    }

    private static int firstSlot(int part) {
        return part == GREATNESS ? 1 : 0;
    }

    private static int lastSlot(int part) {
        switch (part) {
            case NAMES:
                return NEW;
            case WALK:
                return HOW_MANY_STATES * HOW_MANY_STATES - 1;
            default:
                return 9;
        }
    }

    private static boolean isOfKind(int own, int kind) {
        return kind == own || kind == KIND_PART || (kind == KIND_GREAT && own == KIND_WALK);
    }

    private static void layShape(int shape, int fresh, int[] weights) {
        for (int d = 0; d < NEW && d < weights.length; d++) {
            weights[d] = shapeAt(shape, d);
        }
        if (NEW < weights.length) {
            weights[NEW] = fresh;
        }
    }

    private static int shapeAt(int shape, int d) {
        switch (shape) {
            case 0:
                return 9;
            case 1:
                return 10 - d;
            case 2:
                return d < 0 ? 9 : 9 / (d + 1);
            default:
                return d == 0 ? 9 : 1;
        }
    }

    private static int costBy(int[] weights, int[] counts) {
        int all = sumOf(weights);
        int cost = 8 * howManyNotZero(weights);
        for (int i = 0; i < weights.length && i < counts.length; i++) {
            if (counts[i] == 0) {
                continue;
            }
            if (weights[i] == 0) {
                return NONE;
            }
            cost += counts[i] * bitsOf(weights[i], all);
        }
        return cost;
    }

    private static int bitsOf(int weight, int all) {
        int bits = 0;
        while (bits < 30 && (long) weight << bits < all) {
            bits++;
        }
        return bits;
    }

    private static void copyWeights(int[][] from, int[][] to) {
        for (int part = 0; part < HOW_MANY_PARTS; part++) {
            System.arraycopy(from[part], 0, to[part], 0, SLOTS);
        }
    }

    private static int sumOf(int[] weights) {
        int all = 0;
        for (int i = 0; i < weights.length; i++) {
            all += weights[i];
        }
        return all;
    }

    private static int howManyNotZero(int[] weights) {
        int many = 0;
        for (int i = 0; i < weights.length; i++) {
            if (weights[i] != 0) {
                many++;
            }
        }
        return many;
    }

    private static int commonDivisor(int a, int b) {
        int greater = a;
        int lesser = b;
        for (int i = 0; i < 64 && lesser != 0; i++) {
            int rest = greater % lesser;
            greater = lesser;
            lesser = rest;
        }
        return greater == 0 ? 1 : greater;
    }

    private static final class Sheet {
        final int[] items = new int[MOST_ITEMS];
        boolean isMissing = true;
        int lane = 0;
        int size = 0;

        void lay(int newLane, int n) {
            isMissing = false;
            lane = newLane;
            size = n;
            Arrays.fill(items, 0);
        }

        boolean hasPlaces(int i, int n) {
            return i >= 0 && n >= 0 && n <= size && i <= size - n;
        }

        int put(int i, int v) {
            int cut = lane == 0 ? (byte) v : lane == 1 ? (short) v : v;
            if (isBelow(i, size)) {
                items[i] = cut;
            }
            return cut;
        }

        // The caller has looked that there are 3 times n places from i on.
        boolean hasAsks(int i, int n, int tickAhead) {
            int ahead = tickAhead;
            for (int ask = 0; ask < n; ask++) {
                int at = i + 3 * ask;
                int tick = items[at];
                if (tick < ahead || tick > LAST_TICK || !isBelow(items[at + 1], HOW_MANY_NAMES)
                        || items[at + 2] < 1 || items[at + 2] > MOST_GREATNESS) {
                    return false;
                }
                ahead = tick;
            }
            return true;
        }
    }

    private static final class Row {
        final int[] ticks = new int[MOST_ASKS];
        final int[] names = new int[MOST_ASKS];
        final int[] greats = new int[MOST_ASKS];
        final int[] depths = new int[MOST_ASKS];
        int count = 0;

        void append(int tick, int name, int great) {
            if (!isBelow(count, MOST_ASKS)) {
                return;
            }
            depths[count] = depthOf(name);
            ticks[count] = tick;
            names[count] = name;
            greats[count] = great;
            count++;
        }

        int lastTick() {
            return count == 0 ? 0 : ticks[count - 1];
        }

        int gapOf(int i) {
            return i == 0 ? ticks[0] : ticks[i] - ticks[i - 1];
        }

        private int depthOf(int name) {
            int between = 0;
            for (int i = count - 1; i >= 0; i--) {
                if (names[i] == name) {
                    return Integer.bitCount(between);
                }
                between |= 1 << names[i];
            }
            return NONE;
        }

        int namesAsked() {
            int asked = 0;
            for (int i = 0; i < count; i++) {
                asked |= 1 << names[i];
            }
            return asked;
        }

        int nameAtDepth(int depth) {
            int passed = 0;
            for (int i = count - 1; i >= 0; i--) {
                boolean isPassed = (passed & 1 << names[i]) != 0;
                if (!isPassed && Integer.bitCount(passed) == depth) {
                    return names[i];
                }
                passed |= 1 << names[i];
            }
            return 0;
        }

        int leastNewName() {
            int asked = namesAsked();
            int name = 0;
            while (name < HOW_MANY_NAMES - 1 && (asked & 1 << name) != 0) {
                name++;
            }
            return name;
        }

        void becomeHalf(Row whole, int first) {
            count = 0;
            for (int i = first; i < whole.count; i += 2) {
                append(whole.ticks[i], whole.names[i], whole.greats[i]);
            }
        }

        // How often each slot of a part's weights came; of the walk nothing can be seen.
        void countSlots(int part, int[] counts) {
            Arrays.fill(counts, 0);
            if (part == WALK) {
                return;
            }
            for (int i = 0; i < count; i++) {
                int slot = slotOf(part, i);
                if (isBelow(slot, counts.length)) {
                    counts[slot]++;
                }
            }
        }

        private int slotOf(int part, int i) {
            switch (part) {
                case GAPS:
                    return Math.min(gapOf(i), SLOTS - 1);
                case NAMES:
                    return depths[i] == NONE ? NEW : depths[i];
                default:
                    return greats[i];
            }
        }
    }

    private static final class Model {
        final int[][] weights = new int[HOW_MANY_PARTS][SLOTS];
        final boolean[] isLeftOut = new boolean[HOW_MANY_PARTS];
        final int[] noWeights = new int[SLOTS];

        int[] weightsIfNot(int part, int leftOutToo) {
            return isLeftOut[part] || part == leftOutToo ? noWeights : weights[part];
        }

        int howManyTold() {
            int many = 0;
            for (int part = 0; part < HOW_MANY_PARTS; part++) {
                many += howManyNotZero(weights[part]);
            }
            return many;
        }

        int kindOf(int part) {
            return isLeftOut[part] || howManyNotZero(weights[part]) == 0 ? KIND_EMPTY : part + 1;
        }

        int howManyEmpty() {
            int many = 0;
            for (int part = 0; part < HOW_MANY_PARTS; part++) {
                if (kindOf(part) == KIND_EMPTY) {
                    many++;
                }
            }
            return many;
        }
    }

    private static final class Tape {
        private static final int END = 0, WORD = 1, FIGURES = 2, SIGN = 3, NO_TOKEN = 4;
        private static final int MOST_FIGURES = 4;
        private static final int MOST_WEIGHT = 99;
        private static final int NOT_HERE = 1, NOT_AS_TOLD = 2;

        // By words: gap, depth, new, great, walk.
        private static final int[] PART_OF = {GAPS, NAMES, NAMES, GREATNESS, WALK};
        private static final int[] HOW_MANY_PLACES = {1, 1, 0, 1, 2};
        private static final int[] LEAST_PLACE = {0, 0, 0, 1, 0};
        private static final int[] LAST_PLACE = {9, 9, 0, 9, 2};

        final int[] bytes = new int[MOST_BYTES];
        final int[][] read = new int[HOW_MANY_PARTS][SLOTS];
        int count = 0;
        int begin = 0;
        private int behind = 0;
        private int token = END;
        private int value = 0;

        void append(int b) {
            if (isBelow(count, MOST_BYTES)) {
                bytes[count] = b;
                count++;
            }
        }

        // Answers the fault's number, or 0; the faulty token then begins at begin.
        int readAll() {
            behind = 0;
            nextToken();
            for (int i = 0; i < MOST_BYTES && token != END; i++) {
                int fault = readTelling();
                if (fault != 0) {
                    return fault;
                }
                nextToken();
            }
            return 0;
        }

        private int readTelling() {
            int word = wordOfToken();
            if (!isBelow(word, PART_OF.length)) {
                return NOT_HERE;
            }
            int slot = 0;
            for (int i = 0; i < HOW_MANY_PLACES[word]; i++) {
                int fault = readNumber(LEAST_PLACE[word], LAST_PLACE[word]);
                if (fault != 0) {
                    return fault;
                }
                slot = slot * HOW_MANY_STATES + value;
            }
            int fault = readNumber(0, MOST_WEIGHT);
            if (fault != 0) {
                return fault;
            }
            int weight = value;
            nextToken();
            if (token != SIGN) {
                return NOT_HERE;
            }
            tell(PART_OF[word], HOW_MANY_PLACES[word] == 0 ? NEW : slot, weight);
            return 0;
        }

        private void tell(int part, int slot, int weight) {
            if (isBelow(part, HOW_MANY_PARTS) && isBelow(slot, SLOTS)) {
                read[part][slot] = weight;
            }
        }

        private int readNumber(int least, int last) {
            nextToken();
            if (token != FIGURES) {
                return NOT_HERE;
            }
            return value < least || value > last ? NOT_AS_TOLD : 0;
        }

        private int wordOfToken() {
            if (token != WORD) {
                return NONE;
            }
            if (isWord("gap")) {
                return 0;
            }
            if (isWord("depth")) {
                return 1;
            }
            if (isWord("new")) {
                return 2;
            }
            if (isWord("great")) {
                return 3;
            }
            return isWord("walk") ? 4 : NONE;
        }

        private boolean isWord(String word) {
            if (behind - begin != word.length()) {
                return false;
            }
            for (int i = 0; i < word.length(); i++) {
                if (bytes[begin + i] != word.charAt(i)) {
                    return false;
                }
            }
            return true;
        }

        private void nextToken() {
            begin = behind;
            while (begin < count && (bytes[begin] == 32 || bytes[begin] == 10)) {
                begin++;
            }
            behind = begin;
            if (begin >= count) {
                token = END;
            } else if (isLetter(bytes[begin])) {
                takeWord();
            } else if (isFigure(bytes[begin])) {
                takeFigures();
            } else {
                token = bytes[begin] == ';' ? SIGN : NO_TOKEN;
                behind = begin + 1;
            }
        }

        private void takeWord() {
            while (behind < count && isLetter(bytes[behind])) {
                behind++;
            }
            token = WORD;
        }

        private void takeFigures() {
            value = 0;
            while (behind < count && isFigure(bytes[behind])) {
                value = Math.min(10 * value + bytes[behind] - '0', LAST_TICK);
                behind++;
            }
            token = behind - begin > MOST_FIGURES ? NO_TOKEN : FIGURES;
        }

        private static boolean isLetter(int b) {
            return b >= 'a' && b <= 'z';
        }

        private static boolean isFigure(int b) {
            return b >= '0' && b <= '9';
        }
    }

    private static final class Lots {
        private static final long TIMES = 6364136223846793005L;
        private static final long MORE = 1442695040888963407L;
        private long x = 0;
        int taken = 0;

        void begin(long seed) {
            x = seed;
            taken = 0;
        }

        int next() {
            x = x * TIMES + MORE;
            taken++;
            return (int) (x >>> 33);
        }

        // Draws among n weights from a place on: how far behind it; NONE, without a lot, if all are 0.
        int draw(int[] weights, int from, int n) {
            if (from < 0 || n < 0 || n > weights.length || from > weights.length - n) {
                return NONE;
            }
            int all = 0;
            for (int i = 0; i < n; i++) {
                all += weights[from + i];
            }
            if (all <= 0) {
                return NONE;
            }
            int rest = next() % all;
            for (int i = 0; i < n; i++) {
                rest -= weights[from + i];
                if (rest < 0) {
                    return i;
                }
            }
            return NONE;
        }
    }

    private static final class Maker {
        private final Lots lots = new Lots();
        private final int[] chances = new int[SLOTS];

        // leftOutToo is a part that is left out beside those that the model leaves out, or NONE.
        int makeRow(Row row, Model model, long seed, int n, int leftOutToo) {
            int[] gaps = model.weightsIfNot(GAPS, leftOutToo);
            int[] names = model.weightsIfNot(NAMES, leftOutToo);
            int[] greats = model.weightsIfNot(GREATNESS, leftOutToo);
            int[] walk = model.weightsIfNot(WALK, leftOutToo);
            lots.begin(seed);
            row.count = 0;
            int state = 0;
            for (int i = 0; i < n; i++) {
                int gap = lots.draw(gaps, 0, SLOTS);
                int tick = Math.min(row.lastTick() + (gap == NONE ? 1 : gap), LAST_TICK);
                int name = drawName(row, names);
                int great = lots.draw(greats, 0, SLOTS);
                row.append(tick, name, Math.min((great == NONE ? 1 : great) + state, MOST_GREATNESS));
                int next = lots.draw(walk, HOW_MANY_STATES * state, HOW_MANY_STATES);
                state = next == NONE ? state : next;
            }
            return lots.taken;
        }

        private int drawName(Row row, int[] names) {
            int asked = Integer.bitCount(row.namesAsked());
            int options = asked;
            for (int d = 0; d < asked && d < NEW; d++) {
                chances[d] = names[d];
            }
            if (asked < HOW_MANY_NAMES) {
                chances[asked] = names[NEW];
                options++;
            }
            int drawn = lots.draw(chances, 0, options);
            if (drawn == NONE) {
                drawn = 0;
            }
            return drawn >= asked ? row.leastNewName() : row.nameAtDepth(drawn);
        }

        void learnNames(int[] weights, int[] counts, int r, int k, long seed) {
            lots.begin(seed);
            int noises = Math.max(2 * r + 1, 1);
            for (int i = 0; i < weights.length && i < counts.length; i++) {
                weights[i] = counts[i] >= k ? Math.max(counts[i] + lots.next() % noises - r, 0) : 0;
            }
        }
    }

    private static final class House {
        int cache = 2;
        int hit = 1;
        int miss = 5;
        private final int[] ends = new int[MOST_ASKS];

        // Steps a row, closed by k comers, or open (k = 0), and tells its numbers.
        void step(Row row, int k, int[] numbers) {
            Arrays.fill(numbers, 0);
            if (numbers.length < HOW_MANY_NUMBERS) {
                return;
            }
            int end = 0;
            for (int i = 0; i < row.count; i++) {
                int comes = comesAt(row, i, k);
                int begins = Math.max(comes, end);
                end = begins + takes(row, i);
                ends[i] = end;
                numbers[1] += begins - comes;
                numbers[2] = Math.max(numbers[2], begins - comes);
                countCache(row, i, numbers);
            }
            numbers[3] = end;
        }

        private int comesAt(Row row, int i, int k) {
            boolean isOnTick = k <= 0 || i < k;
            return isOnTick ? row.ticks[i] : ends[i - k] + row.gapOf(i);
        }

        private int takes(Row row, int i) {
            return isHit(row, i) ? hit : hit + miss + row.greats[i];
        }

        // The cache keeps the names asked last, so a name is in it by its depth alone.
        private boolean isHit(Row row, int i) {
            return row.depths[i] != NONE && row.depths[i] < cache;
        }

        private void countCache(Row row, int i, int[] numbers) {
            if (isHit(row, i)) {
                numbers[0]++;
                return;
            }
            boolean isFull = numbers[4] >= cache;
            if (isFull) {
                numbers[5]++;
            }
            if (row.depths[i] == NONE) {
                numbers[4]++;
            }
        }
    }

    private static final class Likeness {
        private final Row half = new Row();
        private final int[] ofTrue = new int[HOW_MANY_NUMBERS];
        private final int[] ofEven = new int[HOW_MANY_NUMBERS];
        private final int[] ofOdd = new int[HOW_MANY_NUMBERS];
        private final int[] ofOther = new int[HOW_MANY_NUMBERS];

        int numberOf(Row row, int what, House house, int k) {
            house.step(row, k, ofOther);
            return isBelow(what, HOW_MANY_NUMBERS) ? ofOther[what] : 0;
        }

        void stepTrue(Row trueRow, House house, int k) {
            house.step(trueRow, k, ofTrue);
            half.becomeHalf(trueRow, 0);
            house.step(half, k, ofEven);
            half.becomeHalf(trueRow, 1);
            house.step(half, k, ofOdd);
        }

        int unlikeIn(Row row, House house, int k) {
            house.step(row, k, ofOther);
            int bits = 0;
            for (int what = 0; what < HOW_MANY_NUMBERS; what++) {
                int within = Math.abs(ofEven[what] - ofOdd[what]);
                if (Math.abs(ofOther[what] - ofTrue[what]) > within) {
                    bits |= 1 << what;
                }
            }
            return bits;
        }
    }

    private static final class Asker {
        final int[] bodies = new int[16];
        int begun = 0;
        private int part = 0;
        private int kind = KIND_EMPTY;
        private int size = 0;
        private int trueAsks = 0;

        void begin(int askedPart, Model model, int howManyTrueAsks) {
            begun = 0;
            part = askedPart;
            kind = model.kindOf(askedPart);
            size = sumOf(model.weights[askedPart]);
            trueAsks = howManyTrueAsks;
        }

        int askSize() {
            switch (kind) {
                case KIND_NAMES:
                    return body11();
                case KIND_GREAT:
                    return body12();
                case KIND_WALK:
                    return body13();
                case KIND_EMPTY:
                    return body14();
                default:
                    return body10();
            }
        }

        int askMark() {
            switch (kind) {
                case KIND_NAMES:
                    return body21();
                case KIND_GREAT:
                    return body22();
                case KIND_WALK:
                    return body23();
                default:
                    return body20();
            }
        }

        private void leaveNumber(int body) {
            if (begun >= 0 && begun < bodies.length) {
                bodies[begun] = body;
                begun++;
            }
        }

        private int body10() {
            leaveNumber(10);
            return size;
        }

        private int body11() {
            leaveNumber(11);
            int given = body10();
            return given + askMark();
        }

        private int body12() {
            leaveNumber(12);
            return 2 * body10();
        }

        private int body13() {
            leaveNumber(13);
            int given = body12();
            return given - askMark();
        }

        private int body14() {
            leaveNumber(14);
            return -body10();
        }

        private int body20() {
            leaveNumber(20);
            return part;
        }

        private int body21() {
            leaveNumber(21);
            return body20() + trueAsks;
        }

        private int body22() {
            leaveNumber(22);
            return body20() + 100;
        }

        private int body23() {
            leaveNumber(23);
            return 2 * body22();
        }
    }
}
