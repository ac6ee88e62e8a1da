/** Promises 20 to 22. */
public final class FitsTest {
    private static final Check check = new Check();
    private static final int NONE = MadeTraffic.NONE, BAD = MadeTraffic.BAD, STATE = MadeTraffic.STATE;

    public static void main(String[] args) {
        costsOfNone();
        costs();
        costsThatAreNone();
        bests();
        bestsOfAllShapes();
        bestOfDeepNames();
        bestIsOfTheGridAlone();
        shapes();
        check.end();
    }

    private static void costsOfNone() {
        MadeTraffic x = new MadeTraffic();
        check.due("part -1", x.cost(-1), BAD);
        check.due("part 4", x.cost(4), BAD);
        Check.model(x, "gap 0 1; gap 9 9; new 3; great 1 1; great 2 1; great 3 1; walk 0 0 1; walk 1 1 9;");
        int[] due = {16, 8, 24, 16};
        for (int part = 0; part < 4; part++) {
            check.due("of no asks", x.cost(part), due[part]);
            x.leave(part, 1);
            check.due("left out", x.cost(part), 0);
        }
    }

    private static void costs() {
        MadeTraffic x = new MadeTraffic();
        Check.asks(x, 2, 0, 1, 4, 1, 9, 4, 0, 1);
        Check.model(x, "gap 2 1; gap 0 3;");
        check.due("1 of 4 twice, 3 of 4", x.cost(0), 16 + 2 + 2 + 1);
        Check.model(x, "gap 9 1;");
        check.due("1 of 5 twice, 3 of 5", x.cost(0), 24 + 3 + 3 + 1);
        Check.model(x, "great 1 99; great 9 1;");
        check.due("99 of 100 twice, 1 of 100", x.cost(2), 16 + 1 + 7 + 1);
        Check.model(x, "great 1 0; great 1 7; great 9 1;");
        check.due("7 of 8 twice, 1 of 8", x.cost(2), 16 + 1 + 3 + 1);
        Check.model(x, "new 2; depth 1 2;");
        check.due("2 of 4", x.cost(1), 16 + 3);
        Check.model(x, "depth 9 99; depth 8 99;");
        check.due("2 of 202", x.cost(1), 32 + 21);
        Check.model(x, "depth 9 0; depth 8 0; depth 1 0; new 5;");
        check.due("one has none", x.cost(1), NONE);
        check.due("of the walk none", x.cost(3), 0);
        Check.model(x, "walk 2 2 1;");
        check.due("of the walk no bits", x.cost(3), 8);
        x.leave(3, 1);
        check.due("left out", x.cost(3), 0);
        x.leave(0, 1);
        check.due("left out", x.cost(0), NONE);
        x.leave(0, 0);
        check.due("not left out", x.cost(0), 31);
    }

    private static void costsThatAreNone() {
        MadeTraffic x = new MadeTraffic();
        Check.asks(x, 9, 0, 1);
        Check.model(x, "gap 9 1; new 1; great 1 1;");
        check.due("a gap of 9", x.cost(0), 8);
        check.due("one alone has no bits", x.cost(1), 8);
        check.due("one alone has no bits", x.cost(2), 8);
        Check.asks(x, 19, 0, 2);
        check.due("a gap of 10", x.cost(0), NONE);
        check.due("a depth without a weight", x.cost(1), NONE);
        check.due("a greatness without a weight", x.cost(2), NONE);
        MadeTraffic y = new MadeTraffic();
        Check.asks(y, 9999, 0, 1);
        Check.model(y, "gap 9 1;");
        check.due("a gap far above 9", y.cost(0), NONE);
    }

    private static int shapeAt(int shape, int d) {
        int[][] grid = {{9, 9, 9, 9, 9, 9, 9, 9, 9, 9}, {10, 9, 8, 7, 6, 5, 4, 3, 2, 1},
            {9, 4, 3, 2, 1, 1, 1, 1, 1, 0}, {9, 1, 1, 1, 1, 1, 1, 1, 1, 1}};
        return grid[shape][d];
    }

    private static void bests() {
        MadeTraffic x = new MadeTraffic();
        check.due("what -1", x.best(-1), BAD);
        check.due("what 2, ahead of STATE", x.best(2), BAD);
        check.due("no ask", x.best(0), STATE);
        check.due("no ask", x.best(1), STATE);
        int[] names = {3, 3, 3, 1, 1, 3, 3, 2, 3, 1, 1, 1, 5, 6, 7, 8, 9, 0, 4, 3, 3, 3, 3, 1, 2, 2};
        for (int i = 0; i < names.length; i++) {
            Check.asks(x, i, names[i], 1);
            bestByTrying(x);
        }
    }

    /** Rows of few and of many names, by a fixed seed: their bests are of all shapes. */
    private static void bestsOfAllShapes() {
        java.util.Random random = new java.util.Random(5);
        int shapes = 0;
        int news = 0;
        for (int row = 0; row < 400; row++) {
            MadeTraffic x = new MadeTraffic();
            int names = 1 + random.nextInt(10);
            int kept = 1 + random.nextInt(names);
            int many = 1 + random.nextInt(40);
            for (int i = 0; i < many; i++) {
                int name = i < names ? i : random.nextInt(3) == 0 ? random.nextInt(names) : i % kept;
                Check.asks(x, i, name, 1);
            }
            bestByTrying(x);
            shapes |= 1 << x.best(0) / 10;
            news |= 1 << x.best(0) % 10;
        }
        check.due("each shape was best of some row", shapes, 15);
        check.isTrue("several NEWs were best", Integer.bitCount(news) >= 3);
    }

    /** The best is what cost() tells as least when each of the grid is told. */
    private static void bestByTrying(MadeTraffic source) {
        int[] came = new int[11];
        for (int d = 0; d < 11; d++) {
            came[d] = source.came(d);
        }
        int best = NONE;
        int least = Integer.MAX_VALUE;
        for (int shape = 0; shape < 4; shape++) {
            for (int fresh = 1; fresh <= 9; fresh++) {
                int cost = costByHand(shape, fresh, came);
                if (cost >= 0 && cost < least) {
                    least = cost;
                    best = 10 * shape + fresh;
                }
            }
        }
        check.due("best", source.best(0), best);
        check.due("its cost", source.best(1), least);
    }

    private static int costByHand(int shape, int fresh, int[] came) {
        int all = fresh;
        int cost = 8;
        for (int d = 0; d < 10; d++) {
            all += shapeAt(shape, d);
            cost += shapeAt(shape, d) > 0 ? 8 : 0;
        }
        for (int d = 0; d < 11; d++) {
            int w = d == 10 ? fresh : shapeAt(shape, d);
            if (came[d] > 0 && w == 0) {
                return -1;
            }
            int bits = 0;
            while (came[d] > 0 && w * (1 << bits) < all) {
                bits++;
            }
            cost += came[d] * bits;
        }
        return cost;
    }

    private static void bestOfDeepNames() {
        MadeTraffic x = new MadeTraffic();
        for (int i = 0; i < 20; i++) {
            Check.asks(x, i, i % 10, 1);
        }
        bestByTrying(x);
        check.isTrue("shape 2 has nothing for depth 9", x.best(0) / 10 != 2);
    }

    private static void bestIsOfTheGridAlone() {
        MadeTraffic x = new MadeTraffic();
        Check.asks(x, 1, 0, 1, 2, 0, 1);
        int best = x.best(0);
        x.leave(1, 1);
        check.due("though names are left out", x.best(0), best);
        x.leave(1, 0);
        check.due("names stay as they are", x.cost(1), NONE);
        check.due("its shape", x.shape(best / 10, best % 10), 1);
        check.due("its cost", x.cost(1), x.best(1));
    }

    private static void shapes() {
        MadeTraffic x = new MadeTraffic();
        int[][] bad = {{-1, 1}, {4, 1}, {0, 0}, {0, 10}, {3, -1}};
        Check.model(x, "depth 3 77; new 55; gap 1 1;");
        for (int[] b : bad) {
            check.due("shape " + b[0] + " " + b[1], x.shape(b[0], b[1]), BAD);
        }
        check.due("refused changes nothing", x.weight(1, 3), 77);
        for (int shape = 0; shape < 4; shape++) {
            for (int fresh = 1; fresh <= 9; fresh += 4) {
                check.due("shape", x.shape(shape, fresh), 1);
                for (int d = 0; d < 10; d++) {
                    check.due("shape " + shape + " at " + d, x.weight(1, d), shapeAt(shape, d));
                }
                check.due("NEW", x.weight(1, 10), fresh);
            }
        }
        check.due("others stay", x.weight(0, 1), 1);
    }
}
