/** Sentences of the house: promises 16 to 19. */
final class HouseEdges {
    private HouseEdges() { }

    static void run(Edges e) {
        limits(e);
        cache(e);
        open(e);
        closed(e);
        numbers(e);
        halves(e);
        likes(e);
        worths(e);
        worthsOfTheModelNow(e);
        houses(e);
        wrongNumbers(e);
    }

    private static void numbersAre(Edges e, MadeTraffic x, int row, int k, int... due) {
        for (int what = 0; what < 6; what++) {
            e.due("number " + what + " of row " + row + " by " + k, x.number(row, what, k), due[what]);
        }
    }

    private static void limits(Edges e) {
        e.says("Terms 2", "A HOUSE: a cache for c NAMES (1 to 6)");
        MadeTraffic x = Edges.withNames(0, 1, 2, 3, 4, 5, 6, 6, 5, 4, 3, 2, 1, 0);
        e.due("c 0", x.house(0, 1, 0), Edges.BAD);
        for (int c = 1; c <= 6; c++) {
            e.due("c " + c, x.house(c, 1, 0), 1);
            e.due("hits by " + c, x.number(0, 0, 0), c);
            e.due("gone out by " + c, x.number(0, 5, 0), 14 - 2 * c);
        }
        e.due("c 7", x.house(7, 1, 0), Edges.BAD);
        e.says("Terms 2", "h TICKS for a hit (1 to 9)");
        x = Edges.withNames(0, 0);
        e.due("h 0", x.house(2, 0, 0), Edges.BAD);
        for (int h = 1; h <= 9; h++) {
            e.due("h " + h, x.house(2, h, 0), 1);
            e.due("end by " + h, x.number(0, 3, 0), 2 * h + 1);
        }
        e.due("h 10", x.house(2, 10, 0), Edges.BAD);
        e.says("Terms 2", "m more for a miss (0 to 99)");
        e.due("m -1", x.house(2, 1, -1), Edges.BAD);
        e.due("m 0", x.house(2, 1, 0), 1);
        e.due("end by 0", x.number(0, 3, 0), 3);
        e.due("m 99", x.house(2, 1, 99), 1);
        e.due("end by 99", x.number(0, 3, 0), 102);
        e.due("m 100", x.house(2, 1, 100), Edges.BAD);
        e.says("Terms 2", "an ASK takes h, or h and m and its GREATNESS");
        x = Edges.withAsks(0, 0, 9, 0, 0, 9, 0, 1, 1);
        x.house(1, 4, 20);
        e.due("a miss, a hit, a miss", x.number(0, 3, 0), 33 + 4 + 25);
        e.due("the last waits for both ahead", x.number(0, 2, 0), 37);
    }

    private static void cache(Edges e) {
        e.says("Terms 2", "the cache keeps the c NAMES asked last");
        MadeTraffic x = Edges.withNames(0, 1, 0, 2, 0, 1);
        x.house(2, 1, 0);
        e.due("a hit makes a name one asked last", x.number(0, 0, 0), 2);
        e.due("1 goes out, then 2", x.number(0, 5, 0), 2);
        x = Edges.withNames(0, 1, 2, 0);
        x.house(2, 1, 0);
        e.due("depth 2 of cache 2", x.number(0, 0, 0), 0);
        x.house(3, 1, 0);
        e.due("depth 2 of cache 3", x.number(0, 0, 0), 1);
        x = Edges.withNames(5, 5, 6, 5, 5);
        x.house(1, 1, 0);
        e.due("depth 0 of cache 1", x.number(0, 0, 0), 2);
        e.due("gone out of cache 1", x.number(0, 5, 0), 2);
    }

    private static void open(Edges e) {
        e.says("Terms 2", "OPEN: each comes at its TICK; it begins then, or when the one ahead has ended.");
        // A miss takes 7, a hit 1: the first ends at 10.
        numbersAre(e, Edges.withAsks(3, 0, 1, 9, 0, 1), 0, 0, 1, 1, 1, 11, 1, 0);
        numbersAre(e, Edges.withAsks(3, 0, 1, 10, 0, 1), 0, 0, 1, 0, 0, 11, 1, 0);
        numbersAre(e, Edges.withAsks(3, 0, 1, 11, 0, 1), 0, 0, 1, 0, 0, 12, 1, 0);
        numbersAre(e, Edges.withAsks(3, 0, 1, 3, 0, 1), 0, 0, 1, 7, 7, 11, 1, 0);
        numbersAre(e, Edges.withAsks(9999, 0, 9), 0, 0, 0, 0, 0, 10014, 1, 0);
        e.says("Terms 2", "One serves all in their order.");
        numbersAre(e, Edges.withAsks(0, 0, 1, 1, 0, 1, 2, 0, 1, 20, 0, 1), 0, 0, 3, 12, 6, 21, 1, 0);
    }

    /** k asks that come together and then one more, two ticks behind. */
    private static MadeTraffic together(int k) {
        int[] items = new int[3 * k + 3];
        for (int i = 0; i <= k; i++) {
            items[3 * i] = i < k ? 1 : 3;
            items[3 * i + 2] = 1;
        }
        return Edges.withAsks(items);
    }

    private static void closed(Edges e) {
        e.says("Terms 2", "CLOSED by k comers (1 to 4): the first k come at their TICKS");
        for (int k = 1; k <= 4; k++) {
            int[] items = new int[3 * k];
            for (int i = 0; i < k; i++) {
                items[3 * i] = 2 * i + 1;
                items[3 * i + 2] = 1;
            }
            MadeTraffic x = Edges.withAsks(items);
            for (int what = 0; what < 6; what++) {
                e.due("of " + k + " as if open, number " + what, x.number(0, what, k), x.number(0, what, 0));
            }
        }
        // The first ends at 8, so the last comes at 10; it begins there, or when the hits from 8 on have ended.
        e.says("Terms 2", "each later one its GAP behind the end of the one k ahead of it");
        numbersAre(e, together(1), 0, 1, 1, 0, 0, 11, 1, 0);
        numbersAre(e, together(2), 0, 2, 2, 7, 7, 11, 1, 0);
        numbersAre(e, together(3), 0, 3, 3, 15, 8, 11, 1, 0);
        numbersAre(e, together(4), 0, 4, 4, 25, 9, 12, 1, 0);
        // By one, each comes behind the end of the one ahead: none ever waits.
        numbersAre(e, Edges.withAsks(0, 0, 1, 0, 1, 1, 0, 2, 1, 5, 0, 1), 0, 1, 0, 0, 0, 33, 3, 2);
        e.says("Terms 2", "WAIT: from coming to beginning.");
        e.due("open, 8 less 2", Edges.withAsks(1, 0, 1, 2, 0, 1).number(0, 1, 0), 6);
        e.due("closed by 1, 9 less 9", Edges.withAsks(1, 0, 1, 2, 0, 1).number(0, 1, 1), 0);
    }

    private static void numbers(Edges e) {
        e.says("Terms 2", "NUMBERS: 0 hits, 1 WAITS added, 2 the longest WAIT, 3 the last end, 4 unlike NAMES, 5 how often a NAME went out of the cache.");
        // Takes 7 7 1 7 7 1 from tick 0 on, all come at 0: waits 0 7 14 15 22 29.
        numbersAre(e, Edges.withNames(0, 1, 0, 2, 1, 1), 0, 0, 2, 87, 29, 30, 3, 2);
        e.due("as many names as the cache has room for", Edges.withNames(0, 1).number(0, 5, 0), 0);
        e.due("one more", Edges.withNames(0, 1, 2).number(0, 5, 0), 1);
        e.due("ten names", Edges.withNames(0, 1, 2, 3, 4, 5, 6, 7, 8, 9).number(0, 4, 0), 10);
        int[] names = new int[40];
        for (int i = 0; i < 40; i++) {
            names[i] = i % 10;
        }
        e.due("40 asks of ten names", Edges.withNames(names).number(0, 4, 0), 10);
        e.due("all but two went out", Edges.withNames(names).number(0, 5, 0), 38);
        e.says("Terms 2", "(Of no ASKS all 0.)");
        for (int row = 0; row < 4; row++) {
            for (int k = 0; k <= 4; k++) {
                numbersAre(e, new MadeTraffic(), row, k, 0, 0, 0, 0, 0, 0);
            }
        }
    }

    private static void halves(Edges e) {
        e.says("Terms 2", "HALVES of the TRUE row: its ASKS 0, 2, 4, ..; 1, 3, 5, ..: each a row of its own.");
        MadeTraffic x = Edges.withAsks(5, 0, 1);
        numbersAre(e, x, 2, 0, 0, 0, 0, 12, 1, 0);
        numbersAre(e, x, 3, 0, 0, 0, 0, 0, 0, 0);
        x = Edges.withAsks(5, 0, 1, 8, 0, 2);
        numbersAre(e, x, 2, 0, 0, 0, 0, 12, 1, 0);
        numbersAre(e, x, 3, 0, 0, 0, 0, 16, 1, 0);
        // Names 0 0 0 and 1 0: depths are of the half alone.
        x = Edges.withAsks(0, 0, 1, 10, 1, 1, 20, 0, 1, 40, 0, 1, 50, 0, 1);
        numbersAre(e, x, 2, 0, 2, 0, 0, 51, 1, 0);
        numbersAre(e, x, 3, 0, 0, 0, 0, 47, 2, 0);
        // Gaps are of the half alone, too: 20 and 30; 30.
        numbersAre(e, x, 2, 1, 2, 0, 0, 59, 1, 0);
        numbersAre(e, x, 3, 1, 0, 0, 0, 54, 2, 0);
    }

    /** A true row and, from a model of all parts, a made one. */
    private static MadeTraffic anyAsks(java.util.Random random) {
        MadeTraffic x = new MadeTraffic();
        int tick = 0;
        for (int i = random.nextInt(9); i >= 0; i--) {
            tick += random.nextInt(9);
            Check.asks(x, tick, random.nextInt(4), 1 + random.nextInt(9));
        }
        Check.model(x, "gap 0 1; gap 3 2; gap 8 1; depth 0 2; depth 1 2; new 2; great 1 2; great 5 1; walk 0 2 1; walk 2 0 1;");
        x.make(random.nextLong(), random.nextInt(10));
        return x;
    }

    private static void likesByNumbers(Edges e, MadeTraffic x, int k) {
        for (int what = 0; what < 6; what++) {
            int far = Math.abs(x.number(1, what, k) - x.number(0, what, k));
            int halves = Math.abs(x.number(2, what, k) - x.number(3, what, k));
            e.due("unlike in " + what + " by " + k, x.unlike(k) >> what & 1, far > halves ? 1 : 0);
        }
    }

    private static void likes(Edges e) {
        e.says("Terms 2", "LIKE in a NUMBER: the MADE row's is no farther from the TRUE row's than those of the HALVES are from one another");
        // Two true names; the halves have two and one: a made row may have one to three.
        MadeTraffic x = Edges.withNames(0, 0, 1);
        Check.model(x, "new 1;");
        int[] isLike = {0, 1, 1, 1, 0, 0};
        for (int n = 0; n <= 5; n++) {
            x.make(1, n);
            e.due("like in names, " + n + " of them", 1 - (x.unlike(0) >> 4 & 1), isLike[n]);
        }
        java.util.Random random = new java.util.Random(3);
        for (int row = 0; row < 60; row++) {
            likesByNumbers(e, anyAsks(random), random.nextInt(5));
        }
        e.says("Terms 2", "UNLIKE: the set of NUMBERS in which it is not.");
        e.due("none and none", new MadeTraffic().unlike(0), 0);
        x = new MadeTraffic();
        x.make(1, 1);
        e.due("one made, at 1, of none", x.unlike(0), 8 | 16);
        x.make(1, 2);
        e.due("two made of none", x.unlike(0), 1 | 2 | 4 | 8 | 16);
        Check.model(x, "new 1;");
        x.make(1, 3);
        e.due("three names made of none", x.unlike(0), 2 | 4 | 8 | 16 | 32);
        Check.asks(x, 1, 0, 1);
        x.stretch(1);
        e.due("the same", x.unlike(0), 0);
        e.says("Promise 18", "UNLIKE by k (as in number()): bits.");
        // Both come at 0: open the second waits, by one it comes behind the first.
        x = new MadeTraffic();
        Check.model(x, "gap 0 1;");
        x.make(1, 2);
        e.due("open, by 2 and more", x.unlike(0), 1 | 2 | 4 | 8 | 16);
        e.due("by 1", x.unlike(1), 1 | 8 | 16);
        for (int k = 2; k <= 4; k++) {
            e.due("by " + k, x.unlike(k), 1 | 2 | 4 | 8 | 16);
        }
        e.says("Promise 18", "BAD.");
        int[] bad = {-1, 5, Edges.LOW, Edges.HIGH};
        for (int k : bad) {
            e.due("by " + k, x.unlike(k), Edges.BAD);
        }
    }

    private static void worths(Edges e) {
        e.says("Terms 2", "WORTH of a PART: NUMBERS in which the MADE row is LIKE, and one MADE from the same seed, as many");
        // Made as the true ones: three new names, a tick apart; the halves are of two and one.
        MadeTraffic x = Edges.withAsks(1, 0, 1, 2, 1, 1, 3, 2, 1);
        x.house(6, 1, 5);
        Check.model(x, "new 1; gap 1 1; great 1 1;");
        x.make(5, 3);
        e.due("it is like", x.unlike(0), 0);
        // Without names 7 1 1: two hits, waits 6 and 6, end 10, one name; true: 0, 18, 12, 22, 3, 0;
        // the halves differ in none, 5, 5, 6, 1, none.
        e.due("worth of names", x.worth(1, 0), 1 | 2 | 4 | 8 | 16);
        e.due("worth of gaps, which are 1 anyway", x.worth(0, 0), 0);
        e.due("worth of greatness, which is 1 anyway", x.worth(2, 0), 0);
        e.due("worth of a walk that is not told", x.worth(3, 0), 0);
        x.make(5, 0);
        e.due("of none made", x.worth(1, 0), 0);
        for (int n = 1; n <= 8; n++) {
            x.make(5, n);
            int unlike = x.unlike(0);
            int worth = x.worth(1, 0);
            x.leave(1, 1);
            x.make(5, n);
            e.due("as many: " + n, worth, x.unlike(0) & ~unlike);
            x.leave(1, 0);
        }
        // Of lots that differ by the seed: true and made rows that are told by all parts.
        for (int seed = 0; seed < 40; seed++) {
            MadeTraffic y = anyAsks(new java.util.Random(seed));
            y.make(7L * seed, y.count(1));
            int unlike = y.unlike(0);
            int part = seed % 4;
            int worth = y.worth(part, 0);
            y.leave(part, 1);
            y.make(7L * seed, y.count(1));
            e.due("from seed " + 7 * seed + ", part " + part, worth, y.unlike(0) & ~unlike);
        }
        e.says("Promise 19", "WORTH of a PART by k: bits.");
        x.make(5, 3);
        for (int k = 0; k <= 4; k++) {
            int with = x.unlike(k);
            int told = x.worth(1, k);
            x.leave(1, 1);
            x.make(5, 3);
            e.due("by " + k, told, x.unlike(k) & ~with);
            x.leave(1, 0);
            x.make(5, 3);
        }
    }

    private static void worthsOfTheModelNow(Edges e) {
        e.says("Terms 2", "by the model as it is now with that PART LEFT OUT, too, is not");
        MadeTraffic x = Edges.withAsks(1, 0, 1, 2, 1, 1, 3, 2, 1);
        x.house(6, 1, 5);
        x.shape(0, 1);
        Check.model(x, "new 1; depth 0 0; depth 1 0; depth 2 0;");
        x.make(5, 3);
        e.due("the walk's, names as told", x.worth(3, 0), 0);
        x.leave(1, 1);
        e.due("the walk's, names are left out now", x.worth(3, 0), 1 | 2 | 4 | 8 | 16);
        e.due("the names', left out already", x.worth(1, 0), 1 | 2 | 4 | 8 | 16);
        e.due("names are still left out", x.leave(1, 0), 1);
        e.due("the walk is not", x.leave(3, 0), 0);
        Check.model(x, "new 0; depth 0 1;");
        e.due("the walk's, names told anew", x.worth(3, 0), 1 | 2 | 4 | 8 | 16);
        e.due("the made row stays", x.unlike(0), 0);
        e.says("Promise 19", "BAD; STATE: the MADE row was not MADE by a seed.");
        int[][] bad = {{-1, 0}, {4, 0}, {0, -1}, {0, 5}, {Edges.HIGH, 0}, {0, Edges.LOW}};
        for (int[] b : bad) {
            e.due("worth " + b[0] + " " + b[1], x.worth(b[0], b[1]), Edges.BAD);
        }
        x.stretch(1);
        e.due("stretched", x.worth(0, 0), Edges.STATE);
        x.make(0, 0);
        e.due("made by seed 0, none", x.worth(0, 0), 0);
        e.due("nothing was made", new MadeTraffic().worth(0, 0), Edges.STATE);
    }

    private static void houses(Edges e) {
        e.says("Promise 16", "A HOUSE from now on (at first 2, 1, 5): 1.");
        numbersAre(e, Edges.withNames(0, 1, 0, 2, 1, 1), 0, 0, 2, 87, 29, 30, 3, 2);
        MadeTraffic x = Edges.withNames(0, 1, 0, 2, 1, 1);
        x.stretch(1);
        e.due("another", x.house(3, 2, 0), 1);
        for (int row = 0; row < 2; row++) {
            // Takes 3 3 2 3 2 2: waits 0 3 6 8 11 13.
            numbersAre(e, x, row, 0, 3, 41, 13, 15, 3, 0);
        }
        e.says("Promise 16", "BAD.");
        int[][] bad = {{0, 1, 0}, {7, 1, 0}, {1, 0, 0}, {1, 10, 0}, {1, 1, -1}, {1, 1, 100}, {Edges.LOW, 1, 0},
            {1, Edges.HIGH, 0}, {1, 1, Edges.LOW}};
        for (int[] b : bad) {
            e.due("house " + b[0] + " " + b[1] + " " + b[2], x.house(b[0], b[1], b[2]), Edges.BAD);
        }
        numbersAre(e, x, 0, 0, 3, 41, 13, 15, 3, 0);
    }

    private static void wrongNumbers(Edges e) {
        MadeTraffic x = Edges.withAsks(1, 0, 1, 2, 1, 1, 3, 0, 1);
        x.make(1, 4);
        e.says("Promise 17", "A NUMBER of a row (0 TRUE, 1 MADE; 2, 3 the HALVES) OPEN (k = 0), or CLOSED by k comers.");
        int[] ends = {16, 11, 9, 9};
        int[] endsByOne = {18, 14, 11, 9};
        for (int row = 0; row < 4; row++) {
            e.due("end of row " + row + ", open", x.number(row, 3, 0), ends[row]);
            e.due("end of row " + row + ", by 1", x.number(row, 3, 1), endsByOne[row]);
        }
        e.due("by 4", x.number(0, 3, 4), 16);
        e.says("Promise 17", "BAD.");
        int[][] bad = {{-1, 0, 0}, {4, 0, 0}, {0, -1, 0}, {0, 6, 0}, {0, 0, -1}, {0, 0, 5}, {Edges.HIGH, 0, 0},
            {0, Edges.LOW, 0}, {0, 0, Edges.HIGH}};
        for (int[] b : bad) {
            e.due("number " + b[0] + " " + b[1] + " " + b[2], x.number(b[0], b[1], b[2]), Edges.BAD);
        }
    }
}
