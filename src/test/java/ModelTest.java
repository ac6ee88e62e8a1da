/** Promises 9 to 15. */
public final class ModelTest {
    private static final Check check = new Check();
    private static final int NONE = MadeTraffic.NONE, BAD = MadeTraffic.BAD, FULL = MadeTraffic.FULL;
    private static final String FULL_MODEL = "gap 0 3; gap 4 2; depth 0 5; depth 1 1; new 4; great 2 1; great 8 3;"
            + "walk 0 0 1; walk 0 2 2; walk 2 1 1; walk 1 0 7;";

    public static void main(String[] args) {
        feeding();
        texts();
        faults();
        whatHolds();
        weights();
        leaving();
        makingWithoutWeights();
        makingByHand();
        makingManyNames();
        walking();
        partsLeftOut();
        stretching();
        check.end();
    }

    private static void feeding() {
        MadeTraffic x = new MadeTraffic();
        check.due("n 0", x.feed(0, 0), BAD);
        check.due("n 9", x.feed(0, 9), BAD);
        check.due("n low", x.feed(0, Integer.MIN_VALUE), BAD);
        for (int i = 1; i <= 49; i++) {
            check.due("eight", x.feed(0x2020202020202020L, 8), 8 * i);
        }
        check.due("seven", x.feed(0x20202020202020L, 7), 399);
        check.due("two are too many", x.feed(0x2020, 2), FULL);
        check.due("BAD ahead of FULL", x.feed(0x2020, 9), BAD);
        check.due("none came", x.count(5), 399);
        check.due("the last", x.feed(0x20, 1), 400);
        check.due("one is too many", x.feed(0x20, 1), FULL);
        check.due("blanks tell nothing", x.model(), 0);
        check.due("the tape is empty", x.count(5), 0);
        // Only the lowest bytes come, the highest of them first.
        x.feed(0x78787878006e6577L, 3);
        x.feed(0x78787878203531L, 3);
        x.feed(-197L, 1);
        check.due("new 51;", x.model(), 1);
        check.due("51", x.weight(1, 10), 51);
        x.feed(0x6e65772037373b20L, 8);
        check.due("all eight", x.model(), 1);
        check.due("77", x.weight(1, 10), 77);
    }

    private static void texts() {
        MadeTraffic x = new MadeTraffic();
        check.due("empty", x.model(), 0);
        check.due("blanks and line ends", Check.model(x, " \n gap\n9  99;\n"), 1);
        check.due("told", x.weight(0, 9), 99);
        check.due("no blanks where none is needed", Check.model(x, "new3;great9 0004;depth 0009 7;"), 4);
        check.due("new", x.weight(1, 10), 3);
        check.due("great", x.weight(2, 9), 4);
        check.due("depth", x.weight(1, 9), 7);
        check.due("of several the last", Check.model(x, "new 5;new 6;gap 9 1;gap 9 0;"), 3);
        check.due("new", x.weight(1, 10), 6);
        check.due("gap", x.weight(0, 9), 0);
        check.due("walk", Check.model(x, "walk 2 1 8;"), 4);
        check.due("from 2 to 1", x.weight(3, 7), 8);
        check.due("zeros", Check.model(x, "new 0;great 9 0;depth 9 0;walk 2 1 0;"), 0);
    }

    private static void fault(String text, int place, int number) {
        MadeTraffic x = new MadeTraffic();
        check.due("'" + text + "'", Check.model(x, text), -1000100 - place);
        check.due("fault of '" + text + "'", x.fault(), number);
        check.due("empty behind '" + text + "'", x.count(5), 0);
        check.due("nothing holds", x.weight(0, 1), 0);
    }

    private static void faults() {
        fault("gap", 3, 1);
        fault("gap  \n", 6, 1);
        fault("gap 1", 5, 1);
        fault("gap 1 1", 7, 1);
        fault("gap 1 1 ", 8, 1);
        fault("gap 1 1;x", 8, 1);
        fault("gap 1 1; ;", 9, 1);
        fault(";", 0, 1);
        fault("  7", 2, 1);
        fault("Gap 1 1;", 0, 1);
        fault("gapp 1 1;", 0, 1);
        fault("gapz 1 1;", 0, 1);
        fault("gapa 1 1;", 0, 1);
        fault("aap 1 1;", 0, 1);
        fault("ga 1 1;", 0, 1);
        fault("gap gap 1;", 4, 1);
        fault("gap ; 1;", 4, 1);
        fault("gap 1 ;", 6, 1);
        fault("gap 1 1 1;", 8, 1);
        fault("gap 1 1,", 7, 1);
        fault("gap 1 -1;", 6, 1);
        fault("gap\t1 1;", 3, 1);
        fault("gap 1 1;" + (char) 0, 8, 1);
        fault("gap 1 1;" + (char) 255, 8, 1);
        fault("gap 1 1;" + (char) 160, 8, 1);
        fault("gap 1a 1;", 5, 1);
        fault("gap 00001 1;", 4, 1);
        fault("gap 1 00001;", 6, 1);
        fault("gap 1 99999999999999999999;", 6, 1);
        fault("gap 10 1;", 4, 2);
        fault("gap 9999 100;", 4, 2);
        fault("gap 1 100;", 6, 2);
        fault("gap 1 9999", 6, 2);
        fault("depth 10 1;", 6, 2);
        fault("depth 9 100;", 8, 2);
        fault("new 100;", 4, 2);
        fault("new 1 1;", 6, 1);
        fault("great 0 1;", 6, 2);
        fault("great 10 1;", 6, 2);
        fault("great 9 100;", 8, 2);
        fault("walk 3 0 1;", 5, 2);
        fault("walk 0 3 1;", 7, 2);
        fault("walk 2 2 100;", 9, 2);
        fault("walk 2 2;", 8, 1);
        fault("gap 1 1; gap 10 x", 13, 2);
    }

    private static void whatHolds() {
        MadeTraffic x = new MadeTraffic();
        Check.model(x, "gap 1 5; great 3 2;");
        check.due("a fault", Check.model(x, "gap 1 7; great 3 0; gap"), -1000123);
        check.due("nothing of it holds", x.weight(0, 1), 5);
        check.due("nothing of it holds", x.weight(2, 3), 2);
        check.due("another text comes to what is told", Check.model(x, "gap 2 1;"), 3);
        check.due("the latest fault stays", x.fault(), 1);
        check.due("a fault", Check.model(x, "new 100"), -1000104);
        check.due("the latest one", x.fault(), 2);
        x.leave(0, 1);
        check.due("weights are counted as told", Check.model(x, ""), 3);
        x.shape(0, 1);
        check.due("those of a shape, too", x.model(), 14);
    }

    private static void weights() {
        MadeTraffic x = new MadeTraffic();
        int[][] bad = {{-1, 0}, {4, 0}, {0, -1}, {0, 10}, {1, -1}, {1, 11}, {2, 0}, {2, 10}, {3, -1}, {3, 9},
            {0, Integer.MAX_VALUE}, {3, Integer.MIN_VALUE}};
        for (int[] b : bad) {
            check.due("weight " + b[0] + " " + b[1], x.weight(b[0], b[1]), BAD);
        }
        for (int i = 0; i < 10; i++) {
            Check.model(x, "gap " + i + " " + (10 + i) + ";depth " + i + " " + (20 + i) + ";");
            if (i > 0) {
                Check.model(x, "great " + i + " " + (30 + i) + ";");
            }
            if (i < 9) {
                Check.model(x, "walk " + i / 3 + " " + i % 3 + " " + (40 + i) + ";");
            }
        }
        check.due("all", Check.model(x, "new 99;"), 39);
        for (int i = 0; i < 10; i++) {
            check.due("gap", x.weight(0, i), 10 + i);
            check.due("depth", x.weight(1, i), 20 + i);
            check.due("great", x.weight(2, i), i == 0 ? BAD : 30 + i);
            check.due("walk", x.weight(3, i), i == 9 ? BAD : 40 + i);
        }
        check.due("new", x.weight(1, 10), 99);
        x.leave(1, 1);
        check.due("as told, though left out", x.weight(1, 10), 99);
    }

    private static void leaving() {
        MadeTraffic x = new MadeTraffic();
        int[][] bad = {{-1, 0}, {4, 0}, {0, -1}, {0, 2}};
        for (int[] b : bad) {
            check.due("leave " + b[0] + " " + b[1], x.leave(b[0], b[1]), BAD);
        }
        for (int part = 0; part < 4; part++) {
            check.due("not", x.leave(part, 1), 0);
            check.due("left out", x.leave(part, 1), 1);
            check.due("left out", x.leave(part, 0), 1);
            check.due("not", x.leave(part, 0), 0);
        }
    }

    private static void makingWithoutWeights() {
        MadeTraffic x = new MadeTraffic();
        check.due("n -1", x.make(0, -1), BAD);
        check.due("n 41", x.make(0, 41), BAD);
        check.due("none", x.make(5, 0), 0);
        check.due("no lots", x.make(5, 40), 0);
        check.due("40", x.count(2), 40);
        for (int i = 0; i < 40; i++) {
            check.due("gap 1", x.told(1, i, 0), i + 1);
            check.due("depth 0", x.told(1, i, 1), 0);
            check.due("greatness 1", x.told(1, i, 2), 1);
        }
        check.due("in place", x.make(5, 3), 0);
        check.due("3", x.count(2), 3);
        check.due("refused", x.make(5, 41), BAD);
        check.due("still 3", x.count(2), 3);
    }

    private static void makingByHand() {
        long[] seeds = {0, 1, -1, 77, Long.MIN_VALUE, Long.MAX_VALUE};
        for (long seed : seeds) {
            MadeTraffic x = new MadeTraffic();
            Check.model(x, "gap 3 1; gap 7 2; great 1 1; great 9 4;");
            check.due("two lots each", x.make(seed, 40), 80);
            int[] lots = Edges.lots(seed, 80);
            int tick = 0;
            for (int i = 0; i < 40; i++) {
                tick += lots[2 * i] % 3 < 1 ? 3 : 7;
                check.due("tick", x.told(1, i, 0), tick);
                check.due("greatness", x.told(1, i, 2), lots[2 * i + 1] % 5 < 1 ? 1 : 9);
            }
        }
    }

    private static void makingManyNames() {
        MadeTraffic x = new MadeTraffic();
        check.due("NEW alone", Check.model(x, "new 1;"), 1);
        check.due("a lot while there are new ones", x.make(3, 14), 10);
        for (int i = 0; i < 14; i++) {
            check.due("the least, then depth 0", x.told(1, i, 1), Math.min(i, 9));
        }
        check.due("depth 9 alone", Check.model(x, "new 0; depth 9 1;"), 1);
        check.due("never deep enough", x.make(3, 40), 0);
        check.due("depth 9", Check.model(x, "new 1;"), 2);
        check.due("a lot each", x.make(3, 40), 40);
        for (int i = 0; i < 40; i++) {
            check.due("round", x.told(1, i, 1), i % 10);
        }
        MadeTraffic y = new MadeTraffic();
        Check.model(y, "depth 0 2; depth 1 3; new 4;");
        check.due("lots", y.make(9, 20), 20);
        int[] lots = Edges.lots(9, 20);
        int latest = 0;
        int before = -1;
        int many = 1;
        for (int i = 1; i < 20; i++) {
            int depths = Math.min(many, 2);
            int all = depths == 1 ? 6 : 9;
            int rest = lots[i] % (many < 10 ? all : 5);
            int due = rest < 2 ? latest : depths == 2 && rest < 5 ? before : many;
            many += due == many ? 1 : 0;
            check.due("name " + i, y.told(1, i, 1), due);
            if (due != latest) {
                before = latest;
                latest = due;
            }
        }
    }

    private static void walking() {
        MadeTraffic x = new MadeTraffic();
        Check.model(x, "walk 0 2 1; walk 2 1 1;");
        check.due("lots of states 0 and 2, none of 1", x.make(4, 5), 2);
        int[] due = {1, 3, 2, 2, 2};
        for (int i = 0; i < 5; i++) {
            check.due("1 and the state", x.told(1, i, 2), due[i]);
        }
        Check.model(x, "great 8 1;");
        check.due("lots", x.make(4, 5), 7);
        int[] dueNow = {8, 9, 9, 9, 9};
        for (int i = 0; i < 5; i++) {
            check.due("9 at most", x.told(1, i, 2), dueNow[i]);
        }
    }

    private static void partsLeftOut() {
        MadeTraffic x = new MadeTraffic();
        Check.model(x, FULL_MODEL);
        check.due("four lots each", x.make(21, 10), 40);
        int first = x.told(1, 9, 0);
        check.due("the same bits", x.make(21, 10), 40);
        check.due("the same bits", x.told(1, 9, 0), first);
        for (int part = 0; part < 4; part++) {
            x.leave(part, 1);
            check.due("three lots each", x.make(21, 10), 30);
            if (part == 0) {
                check.due("gaps of 1", x.told(1, 9, 0), 10);
            }
            if (part == 1) {
                check.due("one name", x.told(1, 9, 1), 0);
            }
            x.leave(part, 0);
        }
        check.due("back", x.make(21, 10), 40);
        check.due("back", x.told(1, 9, 0), first);
    }

    private static void stretching() {
        MadeTraffic x = new MadeTraffic();
        check.due("f 0", x.stretch(0), BAD);
        check.due("f 5", x.stretch(5), BAD);
        x.make(1, 7);
        check.due("refused changes nothing", x.stretch(-1), BAD);
        check.due("7", x.count(2), 7);
        check.due("none", x.stretch(3), 0);
        check.due("no asks, but no seed either", x.worth(0, 0), MadeTraffic.STATE);
        Check.asks(x, 2, 8, 3, 5, 9, 4);
        check.due("three each", x.stretch(3), 6);
        int[][] due = {{2, 8, 3}, {2, 9, 3}, {2, 0, 3}, {5, 9, 4}, {5, 0, 4}, {5, 1, 4}};
        for (int i = 0; i < 6; i++) {
            for (int what = 0; what < 3; what++) {
                check.due("stretched " + i + " " + what, x.told(1, i, what), due[i][what]);
            }
        }
        check.due("new at first", x.told(1, 0, 3), NONE);
        check.due("depth", x.told(1, 3, 3), 1);
        for (int i = 0; i < 12; i++) {
            Check.asks(x, 10 + i, 0, 1);
        }
        check.due("42, cut", x.stretch(3), 40);
        check.due("the last", x.told(1, 39, 0), 21);
        check.due("the last", x.told(1, 39, 1), 0);
        check.due("28", x.stretch(2), 28);
        check.due("56, cut", x.stretch(4), 40);
        check.due("the last", x.told(1, 39, 0), 17);
        check.due("the last", x.told(1, 39, 1), 3);
        check.due("as it is", x.stretch(1), 14);
    }
}
