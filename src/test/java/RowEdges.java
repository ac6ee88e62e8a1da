/** Sentences of rows: promises 6 to 8. */
final class RowEdges {
    private RowEdges() { }

    static void run(Edges e) {
        limits(e);
        rows(e);
        depths(e);
        gaps(e);
        asking(e);
        askingWrongly(e);
        tellings(e);
        cames(e);
    }

    private static void item(Edges e, String what, int answer, int tick, int name, int great) {
        MadeTraffic x = new MadeTraffic();
        e.due(what, Check.asks(x, tick, name, great), answer);
        e.due(what + ": so many", x.count(1), answer == 1 ? 1 : 0);
    }

    private static void limits(Edges e) {
        e.says("Terms 1", "An ASK has a TICK (0 to 9999)");
        item(e, "tick -1", Edges.BAD, -1, 0, 1);
        item(e, "tick 0", 1, 0, 0, 1);
        item(e, "tick 9999", 1, 9999, 0, 1);
        item(e, "tick 10000", Edges.BAD, 10000, 0, 1);
        item(e, "tick lowest", Edges.BAD, Edges.LOW, 0, 1);
        item(e, "tick highest", Edges.BAD, Edges.HIGH, 0, 1);
        e.says("Terms 1", "a NAME (0 to 9)");
        item(e, "name -1", Edges.BAD, 0, -1, 1);
        item(e, "name 0", 1, 0, 0, 1);
        item(e, "name 9", 1, 0, 9, 1);
        item(e, "name 10", Edges.BAD, 0, 10, 1);
        item(e, "name lowest", Edges.BAD, 0, Edges.LOW, 1);
        item(e, "name highest", Edges.BAD, 0, Edges.HIGH, 1);
        e.says("Terms 1", "GREATNESS (1 to 9)");
        item(e, "greatness 0", Edges.BAD, 0, 0, 0);
        item(e, "greatness 1", 1, 0, 0, 1);
        item(e, "greatness 9", 1, 0, 0, 9);
        item(e, "greatness 10", Edges.BAD, 0, 0, 10);
        item(e, "greatness lowest", Edges.BAD, 0, 0, Edges.LOW);
        item(e, "greatness highest", Edges.BAD, 0, 0, Edges.HIGH);
    }

    private static void rows(Edges e) {
        e.says("Terms 1", "ROWS of ASKS: 0 the TRUE one, 1 the MADE one");
        MadeTraffic two = Edges.withAsks(5, 3, 7);
        two.make(1, 2);
        e.due("row 0, what was asked", two.told(0, 0, 1), 3);
        e.due("row 0, one ask", two.told(0, 1, 1), Edges.NONE);
        e.due("row 1, what was made", two.told(1, 0, 1), 0);
        e.due("row 1, two asks", two.told(1, 1, 0), 2);
        e.due("no row 2", two.told(2, 0, 1), Edges.BAD);
        e.says("Terms 1", "40 at most each");
        MadeTraffic x = Edges.withNames(new int[40]);
        e.due("40 true ones", x.count(1), 40);
        e.due("no more", x.asks(7, 0, 1), Edges.FULL);
        e.due("the last", x.told(0, 39, 2), 1);
        e.due("none behind it", x.told(0, 40, 2), Edges.NONE);
        x.make(1, 40);
        e.due("40 made ones", x.count(2), 40);
        e.due("no more", x.make(1, 41), Edges.BAD);
        e.due("the last", x.told(1, 39, 2), 1);
        e.due("none behind it", x.told(1, 40, 2), Edges.NONE);
        e.says("Terms 1", "TICKS never fall");
        x = Edges.withAsks(5, 0, 1);
        e.due("4 behind 5", Check.asks(x, 4, 0, 1), Edges.BAD);
        e.due("5 behind 5", Check.asks(x, 5, 0, 1), 2);
        e.due("6, 5 behind 5", Check.asks(x, 6, 0, 1, 5, 0, 1), Edges.BAD);
        e.due("5, 6, 6 behind 5", Check.asks(x, 5, 0, 1, 6, 0, 1, 6, 0, 1), 5);
        e.due("5 behind 6", Check.asks(x, 5, 0, 1), Edges.BAD);
        e.due("9999, 9999 behind 6", Check.asks(x, 9999, 0, 1, 9999, 0, 1), 7);
        e.due("9998 behind 9999", Check.asks(x, 9998, 0, 1), Edges.BAD);
    }

    private static void depths(Edges e) {
        e.says("Terms 1", "DEPTH of an ASK: how many unlike NAMES were asked since its NAME was asked last");
        MadeTraffic x = Edges.withNames(0, 0, 1, 0, 1, 1, 0, 2, 2, 1, 2, 0);
        int[] due = {Edges.NONE, 0, Edges.NONE, 1, 1, 0, 1, Edges.NONE, 0, 2, 1, 2};
        for (int i = 0; i < due.length; i++) {
            e.due("depth of ask " + i, x.told(0, i, 3), due[i]);
        }
        x = Edges.withNames(9, 8, 7, 6, 5, 4, 3, 2, 1, 0, 9, 0, 1);
        e.due("all others between", x.told(0, 10, 3), 9);
        e.due("one between", x.told(0, 11, 3), 1);
        e.due("two between", x.told(0, 12, 3), 2);
        int[] names = new int[40];
        for (int i = 1; i < 39; i++) {
            names[i] = 1 + i % 3;
        }
        x = Edges.withNames(names);
        e.due("38 asks of three names between", x.told(0, 39, 3), 3);
        e.says("Terms 1", "NEW, if it never was");
        x = Edges.withNames(3, 3, 0, 9);
        e.due("the first", x.told(0, 0, 3), Edges.NONE);
        e.due("asked just before", x.told(0, 1, 3), 0);
        e.due("another", x.told(0, 2, 3), Edges.NONE);
        e.due("another", x.told(0, 3, 3), Edges.NONE);
        e.due("so many", x.came(10), 3);
    }

    private static void gaps(Edges e) {
        e.says("Terms 1", "GAP: its TICK less that of the one ahead (of the first: less 0).");
        MadeTraffic x = Edges.withAsks(7, 0, 1, 7, 0, 1, 9999, 0, 1);
        e.due("of the first", x.told(0, 0, 4), 7);
        e.due("at the same tick", x.told(0, 1, 4), 0);
        e.due("far behind", x.told(0, 2, 4), 9992);
        e.due("of the first, at 0", Edges.withAsks(0, 0, 1).told(0, 0, 4), 0);
        e.due("of the first, at 9999", Edges.withAsks(9999, 0, 1).told(0, 0, 4), 9999);
    }

    private static void asking(Edges e) {
        e.says("Promise 6", "n ASKS (1 to 20), three ITEMS each of a SHEET from i on (TICK, NAME, GREATNESS), come behind the TRUE row: how many it has.");
        MadeTraffic x = new MadeTraffic();
        x.sheet(0, 0, 60);
        for (int i = 0; i < 60; i++) {
            x.set(0, i, i % 3 == 0 ? i : 1 + i % 9);
        }
        e.due("none", x.asks(0, 0, 0), Edges.BAD);
        e.due("20", x.asks(0, 0, 20), 20);
        for (int i = 0; i < 60; i++) {
            e.due("item " + i, x.told(0, i / 3, i % 3), i % 3 == 0 ? i : 1 + i % 9);
        }
        x.set(0, 59, 5);
        e.due("1, the last", x.asks(0, 57, 1), 21);
        e.due("its tick", x.told(0, 20, 0), 57);
        e.due("its greatness", x.told(0, 20, 2), 5);
        x.set(0, 4, 57);
        x.set(0, 5, 9);
        x.set(0, 6, 8);
        e.due("from 4 on", x.asks(0, 4, 1), 22);
        e.due("its name", x.told(0, 21, 1), 9);
        e.due("its greatness", x.told(0, 21, 2), 8);
        e.due("21", x.asks(0, 0, 21), Edges.BAD);
    }

    private static void askingWrongly(Edges e) {
        MadeTraffic x = Edges.withNames(new int[20]);
        e.says("Promise 6", "BAD: SHEET, n");
        e.due("sheet -1", x.asks(-1, 0, 1), Edges.BAD);
        e.due("sheet 8", x.asks(8, 0, 1), Edges.BAD);
        int[] wrong = {0, -1, 21, Edges.LOW, Edges.HIGH};
        for (int n : wrong) {
            e.due("n " + n, x.asks(7, 0, n), Edges.BAD);
            e.due("n ahead of NULL, " + n, x.asks(0, 0, n), Edges.BAD);
        }
        e.says("Promise 6", "FULL: more than 40");
        e.due("20 and 19", x.asks(7, 0, 19), 39);
        e.due("39 and 2", x.asks(7, 0, 2), Edges.FULL);
        e.due("39 and 20", x.asks(7, 0, 20), Edges.FULL);
        e.due("39 and 1", x.asks(7, 0, 1), 40);
        e.due("40 and 1", x.asks(7, 0, 1), Edges.FULL);
        e.due("40", x.count(1), 40);
        e.says("Promise 6", "NULL; PLACE");
        MadeTraffic y = new MadeTraffic();
        y.sheet(1, 2, 6);
        y.set(1, 2, 1);
        e.due("missing", y.asks(0, 0, 1), Edges.NULL);
        int[][] places = {{-1, 1}, {4, 1}, {6, 1}, {1, 2}, {0, 3}, {0, 20}, {Edges.LOW, 1}, {Edges.HIGH, 20},
            {Edges.HIGH - 2, 1}};
        for (int[] p : places) {
            e.due("place " + p[0] + ", " + p[1] + " asks", y.asks(1, p[0], p[1]), Edges.PLACE);
        }
        e.due("the first", y.asks(1, 0, 1), 1);
        e.says("Promise 6", "then BAD: an ITEM, a TICK below that ahead.");
        e.due("PLACE ahead of an item", y.asks(1, 3, 2), Edges.PLACE);
        e.due("NULL ahead of an item", y.asks(0, 3, 1), Edges.NULL);
        e.due("an item that is none", y.asks(1, 3, 1), Edges.BAD);
        e.due("none of both comes", y.asks(1, 0, 2), Edges.BAD);
        e.due("one", y.count(1), 1);
        y.set(1, 0, 8);
        y.set(1, 3, 7);
        y.set(1, 5, 9);
        e.due("a tick below that ahead", y.asks(1, 0, 2), Edges.BAD);
        e.due("one", y.count(1), 1);
        e.due("the later one alone", y.asks(1, 3, 1), 2);
        e.due("the earlier one behind it", y.asks(1, 0, 1), 3);
        e.due("below that in the row", y.asks(1, 3, 1), Edges.BAD);
    }

    private static void tellings(Edges e) {
        MadeTraffic x = Edges.withAsks(2, 3, 4, 5, 3, 1);
        x.make(1, 1);
        e.says("Promise 7", "Of ASK i of a row (0 TRUE, 1 MADE): 0 TICK, 1 NAME, 2 GREATNESS");
        int[][] asked = {{2, 3, 4}, {5, 3, 1}};
        for (int i = 0; i < 2; i++) {
            for (int what = 0; what < 3; what++) {
                e.due("true ask " + i + ", " + what, x.told(0, i, what), asked[i][what]);
            }
        }
        int[] made = {1, 0, 1};
        for (int what = 0; what < 3; what++) {
            e.due("made ask, " + what, x.told(1, 0, what), made[what]);
        }
        e.says("Promise 7", "4 GAP");
        e.due("of the first", x.told(0, 0, 4), 2);
        e.due("of the second", x.told(0, 1, 4), 3);
        e.due("of a made one", x.told(1, 0, 4), 1);
        e.says("Promise 7", "3 DEPTH (NONE: NEW)");
        e.due("NEW", x.told(0, 0, 3), Edges.NONE);
        e.due("not NEW", x.told(0, 1, 3), 0);
        e.due("NEW, made", x.told(1, 0, 3), Edges.NONE);
        e.says("Promise 7", "NONE: not so many.");
        for (int what = 0; what < 5; what++) {
            e.due("true, 2", x.told(0, 2, what), Edges.NONE);
            e.due("true, highest", x.told(0, Edges.HIGH, what), Edges.NONE);
            e.due("made, 1", x.told(1, 1, what), Edges.NONE);
        }
        x.make(1, 0);
        e.due("made, of none", x.told(1, 0, 0), Edges.NONE);
        e.says("Promise 7", "BAD: row, i below 0, what.");
        int[][] bad = {{-1, 0, 0}, {2, 0, 0}, {3, 0, 0}, {Edges.LOW, 0, 0}, {0, -1, 0}, {1, -1, 0}, {0, Edges.LOW, 0},
            {0, 0, -1}, {0, 0, 5}, {0, 99, 5}, {1, 0, Edges.HIGH}};
        for (int[] b : bad) {
            e.due("told " + b[0] + " " + b[1] + " " + b[2], x.told(b[0], b[1], b[2]), Edges.BAD);
        }
    }

    private static void cames(Edges e) {
        MadeTraffic x = Edges.withNames(0, 1, 2, 3, 4, 5, 6, 7, 8, 9, 0, 0, 9, 9, 1);
        e.says("Promise 8", "In the TRUE row how often a DEPTH came (d 0 to 9; 10: NEW).");
        int[] due = {2, 1, 0, 0, 0, 0, 0, 0, 0, 2, 10};
        for (int d = 0; d <= 10; d++) {
            e.due("came " + d, x.came(d), due[d]);
            e.due("in an empty row, " + d, new MadeTraffic().came(d), 0);
        }
        x.make(5, 40);
        e.due("not in the made row", x.came(0), 2);
        e.says("Promise 8", "BAD.");
        int[] bad = {-1, 11, Edges.LOW, Edges.HIGH};
        for (int d : bad) {
            e.due("came " + d, x.came(d), Edges.BAD);
        }
    }
}
