import java.util.Random;

/**
 * Runs of up to 512 random calls, told by fixed seeds: each answer is compared with PlainTraffic's,
 * and nothing may be thrown. Arguments are mostly as told, sometimes at an edge or far outside.
 */
public final class RandomRunsTest {
    private static final int RUNS = 1500;
    private static final int CALLS = 31;
    private static final Check check = new Check();
    private static final long[] FAR = {-1, Integer.MIN_VALUE, Integer.MAX_VALUE, 1 << 30, -2, 100, 61, 41, 11};

    private final Random random;
    private final MadeTraffic x = new MadeTraffic();
    private final PlainTraffic y = new PlainTraffic();
    private int tick = 0;
    private int calls = 0;
    private final int wild;

    private RandomRunsTest(long seed) {
        random = new Random(seed);
        wild = seed % 3 == 0 ? 6 : 25;
    }

    public static void main(String[] args) {
        for (int run = 0; run < RUNS; run++) {
            new RandomRunsTest(run).run(run);
        }
        check.end();
    }

    private void run(int run) {
        while (calls < 450) {
            int which = random.nextInt(CALLS + 3);
            String what = "run " + run + ", call " + calls + ": ";
            if (which == CALLS) {
                layAsks(what);
            } else if (which > CALLS) {
                feedText(what);
            } else {
                call(which, what);
            }
        }
        for (int part = 0; part < 4; part++) {
            for (int i = 0; i < 11 && calls < 512; i += 2, calls++) {
                check.due("run " + run + ": weight", x.weight(part, i), y.weight(part, i));
            }
        }
    }

    /** A number from least to most; now and then an edge behind it, or one far outside. */
    private int any(int least, int most) {
        int dice = random.nextInt(wild);
        if (dice == 0) {
            return random.nextBoolean() ? least - 1 : most + 1;
        }
        if (dice == 1 && random.nextInt(4) == 0) {
            return (int) FAR[random.nextInt(FAR.length)];
        }
        return least + random.nextInt(most - least + 1);
    }

    private long anySeed() {
        return random.nextInt(3) == 0 ? random.nextInt(20) - 5 : random.nextLong();
    }

    private void layAsks(String what) {
        int n = 1 + random.nextInt(6);
        int sheet = random.nextInt(8);
        int lane = 1 + random.nextInt(2);
        due(what + "sheet", x.sheet(sheet, lane, 3 * n), y.sheet(sheet, lane, 3 * n));
        for (int i = 0; i < n; i++) {
            tick += random.nextInt(random.nextInt(8) == 0 ? 15 : 6);
            int[] items = {tick, random.nextInt(random.nextInt(3) == 0 ? 10 : 4), 1 + random.nextInt(9)};
            for (int k = 0; k < 3; k++) {
                due(what + "set", x.set(sheet, 3 * i + k, items[k]), y.set(sheet, 3 * i + k, items[k]));
            }
        }
        due(what + "asks", x.asks(sheet, 0, n), y.asks(sheet, 0, n));
    }

    private String number() {
        int dice = random.nextInt(30);
        if (dice == 0) {
            return "" + random.nextInt(200000);
        }
        return dice == 1 ? "00" + random.nextInt(10) : "" + random.nextInt(dice < 8 ? 100 : 10);
    }

    private String telling() {
        String[] words = {"gap", "depth", "new", "great", "walk"};
        int w = random.nextInt(5);
        int one = random.nextInt(w == 4 ? 3 : 10);
        StringBuilder text = new StringBuilder(words[w]).append(' ');
        if (w != 2) {
            text.append(w == 3 ? Math.max(one, 1) : one).append(random.nextBoolean() ? " " : "\n");
        }
        if (w == 4) {
            text.append(random.nextInt(3)).append("  ");
        }
        return text.append(number()).append(';').toString();
    }

    private void feedText(String what) {
        StringBuilder text = new StringBuilder();
        for (int i = random.nextInt(7); i >= 0; i--) {
            text.append(telling());
        }
        if (random.nextInt(4) == 0) {
            String odd = " ;9agz\nX\u00ff0w";
            text.setCharAt(random.nextInt(text.length()), odd.charAt(random.nextInt(odd.length())));
        }
        if (random.nextInt(8) == 0) {
            text.deleteCharAt(random.nextInt(text.length()));
        }
        if (random.nextInt(10) == 0) {
            text.setLength(random.nextInt(text.length() + 1));
        }
        for (int i = 0; i < text.length(); i += 8) {
            long w = random.nextLong();
            int n = Math.min(8, text.length() - i);
            for (int j = 0; j < n; j++) {
                w = w << 8 | text.charAt(i + j);
            }
            due(what + "feed", x.feed(w, n), y.feed(w, n));
        }
        if (random.nextInt(10) != 0) {
            due(what + "model of '" + text + "'", x.model(), y.model());
            due(what + "fault", x.fault(), y.fault());
        }
    }

    private void due(String what, int got, int want) {
        calls++;
        check.due(what, got, want);
    }

    private void call(int which, String what) {
        if (which < 8) {
            callOfSheets(which, what);
        } else if (which < 16) {
            callOfModel(which, what);
        } else if (which < 23) {
            callOfHouse(which, what);
        } else {
            callOfAsks(which, what);
        }
    }

    private void callOfSheets(int which, String what) {
        int a = any(0, 7);
        int b = any(0, 7);
        int i = any(0, 12);
        int j = any(0, 12);
        int n = any(0, which == 0 ? 60 : 8);
        int lane = any(0, 2);
        int row = any(0, 1);
        int v = random.nextInt(4) == 0 ? random.nextInt() : any(0, 300);
        switch (which) {
            case 0: due(what + "sheet", x.sheet(a, lane, n), y.sheet(a, lane, n)); break;
            case 1: due(what + "set", x.set(a, i, v), y.set(a, i, v)); break;
            case 2: due(what + "copy", x.copy(a, i, b, j, n), y.copy(a, i, b, j, n)); break;
            case 3: due(what + "drop", x.drop(a), y.drop(a)); break;
            case 4: due(what + "asks", x.asks(a, i, n), y.asks(a, i, n)); break;
            case 5: due(what + "told", x.told(row, 3 * i, j % 6), y.told(row, 3 * i, j % 6)); break;
            case 6: due(what + "status", x.status(), y.status()); break;
            default: due(what + "came", x.came(i), y.came(i)); break;
        }
    }

    private void callOfModel(int which, String what) {
        long w = random.nextLong();
        int n = any(1, 8);
        int part = any(0, 3);
        int i = any(0, 10);
        int is = any(0, 1);
        int many = any(0, 40);
        int f = any(1, 4);
        long seed = anySeed();
        switch (which) {
            case 8: due(what + "feed", x.feed(w, n), y.feed(w, n)); break;
            case 9: due(what + "model", x.model(), y.model()); break;
            case 10: due(what + "fault", x.fault(), y.fault()); break;
            case 11: due(what + "weight", x.weight(part, i), y.weight(part, i)); break;
            case 12: due(what + "leave", x.leave(part, is), y.leave(part, is)); break;
            case 13: due(what + "stretch", x.stretch(f), y.stretch(f)); break;
            default: due(what + "make", x.make(seed, many), y.make(seed, many)); compareMade(what); break;
        }
    }

    private void compareMade(String what) {
        for (int i = 0; i < 40 && calls < 440; i += 7) {
            for (int of = 0; of < 4; of++) {
                due(what + "told made", x.told(1, i, of), y.told(1, i, of));
            }
        }
    }

    private void callOfHouse(int which, String what) {
        int a = any(1, 6);
        int b = any(1, 9);
        int c = any(0, 99);
        int row = any(0, 3);
        int of = any(0, 5);
        int k = any(0, 4);
        int part = any(0, 3);
        switch (which) {
            case 16: due(what + "house", x.house(a, b, c), y.house(a, b, c)); break;
            case 17: due(what + "unlike", x.unlike(k), y.unlike(k)); break;
            case 18: due(what + "worth", x.worth(part, k), y.worth(part, k)); break;
            case 19: due(what + "cost", x.cost(part), y.cost(part)); break;
            case 20: due(what + "best", x.best(of / 2), y.best(of / 2)); break;
            case 21: due(what + "shape", x.shape(row, b), y.shape(row, b)); break;
            default: due(what + "number", x.number(row, of, k), y.number(row, of, k)); break;
        }
    }

    private void callOfAsks(int which, String what) {
        int part = any(0, 3);
        int kind = any(0, 5);
        int of = any(0, 1);
        int r = any(0, 9);
        int k = any(0, 9);
        int n = any(1, 3);
        long seed = anySeed();
        switch (which) {
            case 23: due(what + "learn", x.learn(r, k / 2, seed), y.learn(r, k / 2, seed)); break;
            case 24: due(what + "guess", x.guess(r, n, of), y.guess(r, n, of)); break;
            case 25: due(what + "kind", x.kind(part), y.kind(part)); break;
            case 26: due(what + "as", x.as(part, kind), y.as(part, kind)); break;
            case 27: due(what + "ask", x.ask(part, of), y.ask(part, of)); break;
            case 28: due(what + "trace", x.trace(kind), y.trace(kind)); break;
            case 29: due(what + "count", x.count(kind), y.count(kind)); break;
            default: due(what + "status", x.status(), y.status()); break;
        }
    }
}
