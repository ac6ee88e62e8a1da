/** Sentences of costs and the grid: promises 20 to 22. */
final class FitEdges {
    private FitEdges() { }

    private static final int[][] GRID = {{9, 9, 9, 9, 9, 9, 9, 9, 9, 9}, {10, 9, 8, 7, 6, 5, 4, 3, 2, 1},
        {9, 4, 3, 2, 1, 1, 1, 1, 1, 0}, {9, 1, 1, 1, 1, 1, 1, 1, 1, 1}};

    static void run(Edges e) {
        told(e);
        bits(e);
        nones(e);
        leftOut(e);
        costs(e);
        grid(e);
        bestOfSeveral(e);
        bests(e);
        shapes(e);
    }

    private static void told(Edges e) {
        e.says("Terms 3", "COST of a PART: 8 for each of its WEIGHTS that is not 0");
        MadeTraffic x = Edges.withModel("gap 0 1; gap 9 99; gap 5 0; depth 0 1; new 1; depth 9 1; great 1 1; great 9 1; walk 0 0 1; walk 2 2 9;");
        int[] due = {16, 24, 16, 16};
        for (int part = 0; part < 4; part++) {
            e.due("of part " + part, x.cost(part), due[part]);
            e.due("of nothing, part " + part, new MadeTraffic().cost(part), 0);
        }
    }

    /** The bits of the one ask, whose gap is 0, by weight w of all. */
    private static void bitsAre(Edges e, int w, int all, int bits) {
        MadeTraffic x = Edges.withAsks(0, 0, 1);
        StringBuilder text = new StringBuilder("gap 0 ").append(w).append(';');
        int told = 1;
        for (int rest = all - w; rest > 0; rest -= Math.min(rest, 99)) {
            text.append("gap ").append(told).append(' ').append(Math.min(rest, 99)).append(';');
            told++;
        }
        Check.model(x, text.toString());
        e.due("cost of " + w + " of " + all, x.cost(0), 8 * told + bits);
    }

    private static void bits(Edges e) {
        e.says("Terms 3", "the least b so that w times 2 to the power b is W or more");
        int[][] due = {{1, 1, 0}, {99, 99, 0}, {1, 2, 1}, {1, 3, 2}, {1, 4, 2}, {1, 5, 3}, {1, 8, 3}, {1, 9, 4}, {2, 3, 1},
            {2, 4, 1}, {2, 5, 2}, {3, 6, 1}, {3, 7, 2}, {3, 12, 2}, {3, 13, 3}, {98, 99, 1}, {1, 512, 9}, {1, 513, 10},
            {1, 892, 10}, {99, 990, 4}, {61, 976 - 61, 4}};
        for (int[] d : due) {
            bitsAre(e, d[0], d[1], d[2]);
        }
        e.says("Terms 3", "by its WEIGHT w of W, all of the PART's (of names all DEPTHS' and NEW's)");
        MadeTraffic x = Edges.withNames(0, 0);
        Check.model(x, "new 1; depth 0 1;");
        e.due("1 of 2, 1 of 2", x.cost(1), 16 + 2);
        Check.model(x, "depth 9 1;");
        e.due("1 of 3, 1 of 3", x.cost(1), 24 + 4);
        Check.model(x, "new 99;");
        e.due("99 of 101, 1 of 101", x.cost(1), 24 + 1 + 7);
        e.says("Terms 3", "and for each ASK of the TRUE row the BITS of what it has there");
        x = Edges.withAsks(3, 0, 2, 3, 0, 5, 6, 0, 2);
        Check.model(x, "gap 3 3; gap 0 1; great 2 1; great 5 3;");
        e.due("gaps 3 0 3", x.cost(0), 16 + 1 + 2 + 1);
        e.due("greatness 2 5 2", x.cost(2), 16 + 2 + 1 + 2);
        x.make(1, 40);
        e.due("not of the made row", x.cost(0), 16 + 1 + 2 + 1);
    }

    private static void nones(Edges e) {
        e.says("Terms 3", "NONE, if some w is 0");
        MadeTraffic x = Edges.withAsks(1, 0, 1, 2, 0, 1);
        for (int part = 0; part < 3; part++) {
            e.due("of no weights, part " + part, x.cost(part), Edges.NONE);
        }
        Check.model(x, "gap 1 1; new 1; depth 0 1; great 1 1;");
        int[] due = {8, 18, 8};
        for (int part = 0; part < 3; part++) {
            e.due("all have weights, part " + part, x.cost(part), due[part]);
        }
        Check.asks(x, 2, 1, 2);
        Check.asks(x, 2, 0, 1);
        for (int part = 0; part < 3; part++) {
            e.due("one has none, part " + part, x.cost(part), Edges.NONE);
        }
        e.says("Terms 3", "(a GAP above 9 has 0)");
        e.due("gap 9", gapCost(9), 80 + 4);
        e.due("gap 10", gapCost(10), Edges.NONE);
        e.due("gap 11", gapCost(11), Edges.NONE);
        e.due("gap 9999", gapCost(9999), Edges.NONE);
        e.says("Terms 3", "Of the walk no BITS.");
        x = Edges.withAsks(1, 0, 1, 2, 0, 1);
        e.due("of no weights", x.cost(3), 0);
        Check.model(x, "walk 1 1 1; walk 2 0 99;");
        e.due("of two weights", x.cost(3), 16);
    }

    private static int gapCost(int gap) {
        MadeTraffic x = Edges.withAsks(gap, 0, 1);
        StringBuilder text = new StringBuilder();
        for (int i = 0; i < 10; i++) {
            text.append("gap ").append(i).append(" 1;");
        }
        Check.model(x, text.toString());
        return x.cost(0);
    }

    private static void leftOut(Edges e) {
        e.says("Terms 3", "(A PART that is LEFT OUT has WEIGHTS 0.)");
        String text = "gap 1 1; new 1; great 1 1; walk 0 0 1;";
        MadeTraffic x = Edges.withModel(text);
        MadeTraffic y = Edges.withAsks(1, 0, 1);
        Check.model(y, text);
        for (int part = 0; part < 4; part++) {
            x.leave(part, 1);
            y.leave(part, 1);
            e.due("of no asks, part " + part, x.cost(part), 0);
            e.due("of one ask, part " + part, y.cost(part), part == 3 ? 0 : Edges.NONE);
            y.leave(part, 0);
            e.due("not left out, part " + part, y.cost(part), 8);
        }
    }

    private static void costs(Edges e) {
        e.says("Promise 20", "COST of a PART; NONE.");
        MadeTraffic x = Edges.withAsks(0, 0, 1);
        e.due("none", x.cost(0), Edges.NONE);
        Check.model(x, "gap 0 5;");
        e.due("a cost", x.cost(0), 8);
        e.says("Promise 20", "BAD.");
        int[] bad = {-1, 4, Edges.LOW, Edges.HIGH};
        for (int part : bad) {
            e.due("cost " + part, x.cost(part), Edges.BAD);
        }
    }

    private static void grid(Edges e) {
        e.says("Terms 3", "GRID: shapes 0 to 3 give DEPTH d the WEIGHT 9; 10 - d; 9 by (d and 1), cut; 9 for d 0, else 1; with each NEW 1 to 9.");
        MadeTraffic x = new MadeTraffic();
        for (int shape = 0; shape < 4; shape++) {
            e.due("shape " + shape, x.shape(shape, 1 + 2 * shape), 1);
            for (int d = 0; d < 10; d++) {
                e.due("shape " + shape + ", depth " + d, x.weight(1, d), GRID[shape][d]);
            }
            e.due("shape " + shape + ", NEW", x.weight(1, 10), 1 + 2 * shape);
        }
        for (int fresh = 1; fresh <= 9; fresh++) {
            x.shape(0, fresh);
            e.due("NEW " + fresh, x.weight(1, 10), fresh);
        }
    }

    /** By trying all of the grid: the least cost, and the bits of the shapes that have it. */
    private static int[] tried(MadeTraffic x) {
        int least = Integer.MAX_VALUE;
        int best = 0;
        int shapes = 0;
        int many = 0;
        for (int shape = 0; shape < 4; shape++) {
            for (int fresh = 1; fresh <= 9; fresh++) {
                x.shape(shape, fresh);
                int cost = x.cost(1);
                if (cost != Edges.NONE && cost < least) {
                    least = cost;
                    best = 10 * shape + fresh;
                    shapes = 0;
                    many = 0;
                }
                if (cost == least) {
                    shapes |= 1 << shape;
                    many++;
                }
            }
        }
        return new int[] {best, least, shapes, many};
    }

    private static void bestOfSeveral(Edges e) {
        e.says("Terms 3", "BEST: of these the one of which the COST of names would be least");
        MadeTraffic x = Edges.withNames(0);
        e.due("of one new name, the first of several NEWs", x.best(0), 28);
        e.due("its cost", x.best(1), 82);
        x = Edges.withNames(new int[40]);
        int[] due = tried(x);
        e.due("of one name", x.best(0), due[0]);
        e.due("its cost", x.best(1), due[1]);
        // Four names in turn: only shape 1 with NEW 1 has 3 bits for depth 3, 7 of 56.
        int[] turns = new int[40];
        for (int i = 0; i < 40; i++) {
            turns[i] = i % 4;
        }
        x = Edges.withNames(turns);
        e.due("of four names in turn", x.best(0), 11);
        e.due("its cost", x.best(1), 88 + 4 * 6 + 36 * 3);
        e.says("Terms 3", "(NONE is no COST)");
        x = Edges.withNames(0, 1, 2, 3, 4, 5, 6, 7, 8, 9, 9, 9, 9, 9, 9, 9, 9, 9, 9, 9);
        e.due("shape 2, as long as nothing lies at depth 9", x.best(0) / 10, 2);
        Check.asks(x, 0, 0, 1);
        due = tried(x);
        x.shape(2, 9);
        e.due("the cost of shape 2 then", x.cost(1), Edges.NONE);
        e.isTrue("another shape", x.best(0) / 10 != 2);
        e.due("the best of the others", x.best(0), due[0]);
        e.due("its cost", x.best(1), due[1]);
        e.says("Terms 3", "of several the first by shapes, then by NEW: 10 times the shape, and NEW.");
        java.util.Random random = new java.util.Random(11);
        int ofShapes = 0;
        int ofNews = 0;
        for (int row = 0; row < 300; row++) {
            int[] names = new int[4 + random.nextInt(37)];
            int kept = 1 + random.nextInt(10);
            for (int i = 0; i < names.length; i++) {
                names[i] = random.nextInt(3) == 0 ? random.nextInt(10) : i % kept;
            }
            x = Edges.withNames(names);
            due = tried(x);
            e.due("best of row " + row, x.best(0), due[0]);
            e.due("cost of row " + row, x.best(1), due[1]);
            ofShapes += Integer.bitCount(due[2]) > 1 ? 1 : 0;
            ofNews += due[3] > Integer.bitCount(due[2]) ? 1 : 0;
        }
        e.isTrue("several shapes were best, " + ofShapes, ofShapes > 0);
        e.isTrue("several NEWs were best, " + ofNews, ofNews > 0);
    }

    private static void bests(Edges e) {
        e.says("Promise 21", "BEST (what = 0), its COST (1).");
        MadeTraffic x = Edges.withNames(0);
        x.shape(0, 3);
        e.due("best", x.best(0), 28);
        e.due("its cost", x.best(1), 82);
        e.due("the weights stay", x.weight(1, 10), 3);
        x.leave(1, 1);
        e.due("of the grid, whatever is left out", x.best(0), 28);
        e.says("Promise 21", "BAD; STATE: the TRUE row has no ASK.");
        MadeTraffic y = new MadeTraffic();
        y.make(1, 5);
        int[] bad = {-1, 2, Edges.LOW, Edges.HIGH};
        for (int what : bad) {
            e.due("best " + what, x.best(what), Edges.BAD);
            e.due("best " + what + ", ahead of STATE", y.best(what), Edges.BAD);
        }
        e.due("no true ask", y.best(0), Edges.STATE);
        e.due("no true ask", y.best(1), Edges.STATE);
        Check.asks(y, 0, 0, 1);
        e.due("one true ask", y.best(0), 28);
    }

    private static void shapes(Edges e) {
        e.says("Promise 22", "Names get the WEIGHTS of a shape and NEW: 1.");
        MadeTraffic x = Edges.withModel("depth 9 77; new 55; gap 1 3; great 1 4; walk 0 0 5;");
        e.due("shape", x.shape(2, 9), 1);
        e.due("depth 9, in place of 77", x.weight(1, 9), 0);
        e.due("NEW, in place of 55", x.weight(1, 10), 9);
        e.due("gaps stay", x.weight(0, 1), 3);
        e.due("greatness stays", x.weight(2, 1), 4);
        e.due("the walk stays", x.weight(3, 0), 5);
        e.due("the least", x.shape(0, 1), 1);
        e.due("the last", x.shape(3, 9), 1);
        x.leave(1, 1);
        e.due("though left out", x.shape(1, 2), 1);
        e.due("10", x.weight(1, 0), 10);
        e.due("still left out", x.leave(1, 1), 1);
        e.says("Promise 22", "BAD.");
        int[][] bad = {{-1, 1}, {4, 1}, {0, 0}, {0, 10}, {0, -1}, {Edges.LOW, 1}, {Edges.HIGH, 1}, {0, Edges.HIGH}};
        for (int[] b : bad) {
            e.due("shape " + b[0] + " " + b[1], x.shape(b[0], b[1]), Edges.BAD);
        }
    }
}
