/** Sentences of sheets: promises 1 to 5, and 30. */
final class SheetEdges {
    private SheetEdges() { }

    static void run(Edges e) {
        terms(e);
        newObject(e);
        sheets(e);
        setting(e);
        copying(e);
        copyingWrongly(e);
        dropping(e);
        status(e);
    }

    private static void terms(Edges e) {
        e.says("Terms 1", "SHEETS 0 .. 7 are missing (at first)");
        MadeTraffic x = new MadeTraffic();
        for (int sheet = 0; sheet < 8; sheet++) {
            e.due("set " + sheet, x.set(sheet, 0, 0), Edges.NULL);
            e.due("sheet " + sheet, x.sheet(sheet, 0, 1), 1);
            e.due("set " + sheet, x.set(sheet, 0, 1), 1);
        }
        e.due("all are there", x.count(0), 8);
        e.says("Terms 1", "or have a LANE (0 bytes, 1 shorts, 2 ints)");
        int[] cut = {0x78, 0x5678, 0x12345678};
        for (int lane = 0; lane < 3; lane++) {
            x.sheet(0, lane, 1);
            e.due("lane " + lane, x.set(0, 0, 0x12345678), cut[lane]);
        }
        e.says("Terms 1", "and 0 to 60 ITEMS");
        e.due("none", x.sheet(0, 2, 0), 0);
        e.due("no first place", x.set(0, 0, 1), Edges.PLACE);
        e.due("60", x.sheet(0, 2, 60), 60);
        e.due("the last place", x.set(0, 59, 1), 1);
        e.due("none behind it", x.set(0, 60, 1), Edges.PLACE);
        e.due("61", x.sheet(0, 2, 61), Edges.BAD);
        itemsAtFirst(e);
    }

    /** Sets an ask's greatness alone at each third place, so that all else is read as it is at first. */
    private static void itemsAtFirst(Edges e) {
        e.says("Terms 1", "0 at first");
        for (int lane = 0; lane < 3; lane++) {
            MadeTraffic x = new MadeTraffic();
            x.sheet(0, lane, 60);
            e.due("greatness 0 is none", x.asks(0, 57, 1), Edges.BAD);
            for (int i = 0; i < 20; i++) {
                x.set(0, 3 * i + 2, 1);
            }
            e.due("asks", x.asks(0, 0, 20), 20);
            for (int i = 0; i < 20; i++) {
                e.due("tick", x.told(0, i, 0), 0);
                e.due("name", x.told(0, i, 1), 0);
            }
        }
    }

    private static void newObject(Edges e) {
        e.says("Promise 1", "Nothing is told.");
        MadeTraffic x = new MadeTraffic();
        int[] counts = {0, 0, 0, 4, 100, 0};
        for (int what = 0; what < 6; what++) {
            e.due("count " + what, x.count(what), counts[what]);
        }
        e.due("status", x.status(), 0);
        e.due("fault", x.fault(), 0);
        e.due("trace", x.trace(0), Edges.NONE);
        e.due("true row", x.told(0, 0, 0), Edges.NONE);
        e.due("made row", x.told(1, 0, 0), Edges.NONE);
        e.due("made by no seed", x.worth(0, 0), Edges.STATE);
        e.due("an empty tape", x.model(), 0);
        for (int part = 0; part < 4; part++) {
            for (int i = part == 2 ? 1 : 0; i < (part == 1 ? 11 : part == 3 ? 9 : 10); i++) {
                e.due("weight " + part + " " + i, x.weight(part, i), 0);
            }
            e.due("not left out " + part, x.leave(part, 0), 0);
        }
        MadeTraffic other = new MadeTraffic();
        other.sheet(0, 0, 1);
        other.feed(32, 1);
        e.due("another object's sheet", x.count(0), 0);
        e.due("another object's tape", x.count(5), 0);
    }

    private static void sheets(Edges e) {
        e.says("Promise 2", "A SHEET of a LANE with n ITEMS, in place of what is there: n.");
        MadeTraffic x = new MadeTraffic();
        x.sheet(0, 2, 60);
        x.set(0, 1, 5);
        e.due("fewer", x.sheet(0, 1, 3), 3);
        e.due("no place of the one that was", x.set(0, 3, 1), Edges.PLACE);
        e.due("the new lane", x.set(0, 0, 65536), 0);
        x.set(0, 2, 1);
        x.asks(0, 0, 1);
        e.due("no item of the one that was", x.told(0, 0, 1), 0);
        e.due("more", x.sheet(0, 1, 4), 4);
        e.due("their lane", x.set(0, 3, 1), 1);
        e.due("one sheet", x.count(0), 1);
        e.says("Promise 2", "BAD: SHEET, LANE, n above 60; SIZE.");
        int[] noSheets = {-1, 8, Edges.LOW, Edges.HIGH};
        for (int sheet : noSheets) {
            e.due("sheet " + sheet, x.sheet(sheet, 0, 1), Edges.BAD);
        }
        int[] noLanes = {-1, 3, Edges.LOW, Edges.HIGH};
        for (int lane : noLanes) {
            e.due("lane " + lane, x.sheet(0, lane, 1), Edges.BAD);
        }
        e.due("n 61", x.sheet(0, 0, 61), Edges.BAD);
        e.due("n highest", x.sheet(0, 0, Edges.HIGH), Edges.BAD);
        e.due("n -1", x.sheet(0, 0, -1), Edges.SIZE);
        e.due("n lowest", x.sheet(7, 2, Edges.LOW), Edges.SIZE);
    }

    private static void setting(Edges e) {
        e.says("Promise 3", "ITEM i becomes v, its lowest bits, as many as the LANE has: what it is then.");
        MadeTraffic x = new MadeTraffic();
        for (int lane = 0; lane < 3; lane++) {
            x.sheet(lane, lane, 1);
        }
        int[][] due = {{127, 127, 127, 127}, {128, -128, 128, 128}, {255, -1, 255, 255}, {256, 0, 256, 256},
            {-128, -128, -128, -128}, {-129, 127, -129, -129}, {32767, -1, 32767, 32767},
            {32768, 0, -32768, 32768}, {65535, -1, -1, 65535}, {65536, 0, 0, 65536}, {-32769, -1, 32767, -32769},
            {Edges.HIGH, -1, -1, Edges.HIGH}, {Edges.LOW, 0, 0, Edges.LOW}};
        for (int[] d : due) {
            for (int lane = 0; lane < 3; lane++) {
                e.due("set " + d[0] + " in lane " + lane, x.set(lane, 0, d[0]), d[lane + 1]);
            }
        }
        x.sheet(0, 0, 3);
        x.set(0, 0, 256 + 7);
        x.set(0, 1, 512 + 4);
        x.set(0, 2, 1);
        e.due("what is kept is cut", x.asks(0, 0, 1), 1);
        e.due("tick", x.told(0, 0, 0), 7);
        e.due("name", x.told(0, 0, 1), 4);
        e.says("Promise 3", "BAD: SHEET; NULL; PLACE.");
        e.due("sheet -1", x.set(-1, 0, 0), Edges.BAD);
        e.due("sheet 8", x.set(8, 0, 0), Edges.BAD);
        e.due("missing", x.set(3, 0, 0), Edges.NULL);
        int[] noPlaces = {-1, 3, 60, Edges.LOW, Edges.HIGH};
        for (int i : noPlaces) {
            e.due("place " + i, x.set(0, i, 0), Edges.PLACE);
        }
    }

    /** Asks of three items each, read from sheet 0, which has ints. */
    private static void reads(Edges e, MadeTraffic x, int i, int... items) {
        int before = x.count(1);
        e.due("asks at " + i, x.asks(0, i, items.length / 3), before + items.length / 3);
        for (int k = 0; k < items.length; k++) {
            e.due("item " + (i + k), x.told(0, before + k / 3, k % 3), items[k]);
        }
    }

    private static MadeTraffic oneToNine() {
        MadeTraffic x = new MadeTraffic();
        x.sheet(0, 2, 9);
        for (int i = 0; i < 9; i++) {
            x.set(0, i, i + 1);
        }
        return x;
    }

    private static void copying(Edges e) {
        e.says("Promise 4", "n ITEMS of a from i on come to b from j on, as they were ahead: n.");
        MadeTraffic x = oneToNine();
        e.due("up within one", x.copy(0, 0, 0, 1, 8), 8);
        reads(e, x, 0, 1, 1, 2, 3, 4, 5, 6, 7, 8);
        x = oneToNine();
        e.due("down within one", x.copy(0, 1, 0, 0, 8), 8);
        reads(e, x, 0, 2, 3, 4, 5, 6, 7, 8, 9, 9);
        x = oneToNine();
        e.due("onto itself", x.copy(0, 0, 0, 0, 9), 9);
        reads(e, x, 0, 1, 2, 3, 4, 5, 6, 7, 8, 9);
        x = oneToNine();
        x.sheet(1, 2, 4);
        for (int i = 0; i < 4; i++) {
            x.set(1, i, 9 - i);
        }
        e.due("from another, its end to the end", x.copy(1, 2, 0, 7, 2), 2);
        reads(e, x, 0, 1, 2, 3, 4, 5, 6, 7, 7, 6);
        e.due("none", x.copy(0, 0, 1, 0, 0), 0);
        e.due("none, at both ends", x.copy(0, 9, 1, 4, 0), 0);
        e.due("to another, all of it", x.copy(0, 0, 1, 0, 4), 4);
        e.due("and back", x.copy(1, 0, 0, 5, 4), 4);
        x.set(0, 3, 7);
        reads(e, x, 3, 7, 5, 1);
    }

    private static void copyingWrongly(Edges e) {
        e.says("Promise 4", "BAD: SHEETS; NULL; STORE; PLACE (i, j, n below 0, or beyond an end).");
        MadeTraffic x = new MadeTraffic();
        x.sheet(0, 1, 5);
        x.sheet(1, 1, 3);
        x.sheet(2, 2, 5);
        x.sheet(3, 0, 5);
        e.due("a -1", x.copy(-1, 0, 0, 0, 1), Edges.BAD);
        e.due("a 8", x.copy(8, 0, 0, 0, 1), Edges.BAD);
        e.due("b -1", x.copy(0, 0, -1, 0, 1), Edges.BAD);
        e.due("b 8", x.copy(0, 0, 8, 0, 1), Edges.BAD);
        e.due("a missing", x.copy(7, 0, 0, 0, 1), Edges.NULL);
        e.due("b missing", x.copy(0, 0, 7, 0, 1), Edges.NULL);
        e.due("shorts to ints", x.copy(0, 0, 2, 0, 1), Edges.STORE);
        e.due("shorts to bytes", x.copy(0, 0, 3, 0, 1), Edges.STORE);
        e.due("bytes to ints", x.copy(3, 0, 2, 0, 0), Edges.STORE);
        int[][] places = {{-1, 0, 1}, {0, -1, 1}, {0, 0, -1}, {5, 0, 1}, {6, 0, 0}, {3, 0, 3}, {0, 3, 1}, {0, 4, 0},
            {0, 1, 3}, {0, 0, 4}, {Edges.HIGH, 0, 1}, {0, Edges.HIGH, 1}, {1, 0, Edges.HIGH}, {0, 1, Edges.HIGH},
            {Edges.LOW, 0, 1}, {0, Edges.LOW, 1}, {0, 0, Edges.LOW}, {Edges.LOW, 0, Edges.HIGH}};
        for (int[] p : places) {
            e.due("copy " + p[0] + " " + p[1] + " " + p[2], x.copy(0, p[0], 1, p[1], p[2]), Edges.PLACE);
        }
        e.due("the last of each", x.copy(0, 4, 1, 2, 1), 1);
        e.due("as many as fit", x.copy(0, 2, 1, 0, 3), 3);
    }

    private static void dropping(Edges e) {
        e.says("Promise 5", "A SHEET is missing from now on: how many ITEMS it had.");
        MadeTraffic x = new MadeTraffic();
        x.sheet(0, 0, 60);
        x.sheet(7, 0, 0);
        e.due("60", x.drop(0), 60);
        e.due("none", x.drop(7), 0);
        e.due("missing", x.set(0, 0, 0), Edges.NULL);
        e.due("missing", x.copy(0, 0, 0, 0, 0), Edges.NULL);
        e.due("missing", x.asks(0, 0, 1), Edges.NULL);
        e.due("no sheet", x.count(0), 0);
        e.due("until it comes again", x.sheet(0, 2, 3), 3);
        e.due("one sheet", x.count(0), 1);
        e.says("Promise 5", "BAD; NULL.");
        e.due("sheet -1", x.drop(-1), Edges.BAD);
        e.due("sheet 8", x.drop(8), Edges.BAD);
        e.due("missing", x.drop(7), Edges.NULL);
    }

    private static void status(Edges e) {
        e.says("Promise 30", "Of the latest call with a SHEET, or as(), that was not BAD, STATE, FULL: the number of its FINDING");
        MadeTraffic x = Edges.withNames(new int[39]);
        x.drop(0);
        e.due("drop, NULL", x.status(), 1);
        x.sheet(0, 0, -1);
        e.due("sheet, SIZE", x.status(), 4);
        x.set(0, 0, 0);
        e.due("set, NULL", x.status(), 1);
        x.as(0, 4);
        e.due("as, KIND", x.status(), 3);
        x.asks(7, 58, 1);
        e.due("asks, PLACE", x.status(), 2);
        x.sheet(0, 0, 1);
        x.copy(7, 0, 0, 0, 1);
        e.due("copy, STORE", x.status(), 5);
        Edges.Call[] refused = {y -> y.sheet(8, 0, 1), y -> y.set(8, 0, 1), y -> y.copy(0, 0, 8, 0, 0), y -> y.drop(8),
            y -> y.asks(0, 0, 0), y -> y.asks(7, 0, 2), y -> y.as(4, 0), y -> y.as(0, 6)};
        for (int i = 0; i < refused.length; i++) {
            refused[i].on(x);
            e.due("BAD or FULL leaves it, " + i, x.status(), 5);
        }
        x.set(7, 2, 0);
        x.drop(6);
        e.due("an item that is none", x.asks(7, 0, 1), Edges.BAD);
        e.due("BAD leaves it", x.status(), 1);
        Edges.Call[] without = {y -> y.worth(0, 0), y -> y.feed(59, 1), y -> y.model(), y -> y.make(0, 1),
            y -> y.stretch(1), y -> y.ask(0, 0), y -> y.told(2, 0, 0), y -> y.count(0), y -> y.kind(0)};
        for (int i = 0; i < without.length; i++) {
            without[i].on(x);
            e.due("without a sheet, " + i, x.status(), 1);
        }
        e.says("Promise 30", "0: it had none, or there was none.");
        e.due("there was none", new MadeTraffic().status(), 0);
        x.set(7, 2, 1);
        Edges.Call[] well = {y -> y.sheet(0, 2, 0), y -> y.set(7, 0, 0), y -> y.copy(7, 0, 7, 0, 0), y -> y.as(0, 0),
            y -> y.asks(7, 0, 1), y -> y.drop(7)};
        for (int i = 0; i < well.length; i++) {
            x.drop(6);
            e.due("it had one", x.status(), 1);
            e.isTrue("it had none", well[i].on(x) >= 0);
            e.due("it had none, " + i, x.status(), 0);
        }
    }
}
