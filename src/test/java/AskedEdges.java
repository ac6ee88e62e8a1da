/** Sentences of parts that are asked: promises 25 to 29. */
final class AskedEdges {
    private AskedEdges() { }

    static void run(Edges e) {
        kinds(e);
        empties(e);
        bodies(e);
        traces(e);
        kindOf(e);
        as(e);
        ask(e);
        trace(e);
        count(e);
    }

    private static MadeTraffic told() {
        MadeTraffic x = Edges.withAsks(1, 1, 1, 2, 2, 2, 3, 3, 3);
        Check.model(x, "gap 1 2; gap 9 5; depth 0 4; new 7; great 1 3; great 9 8; walk 2 2 40; walk 0 0 2;");
        return x;
    }

    private static void isOf(Edges e, MadeTraffic x, int part, int... kinds) {
        for (int kind = 0; kind < 6; kind++) {
            int due = Edges.KIND;
            for (int k : kinds) {
                due = k == kind ? part : due;
            }
            e.due("part " + part + " as kind " + kind, x.as(part, kind), due);
        }
    }

    private static void kinds(Edges e) {
        MadeTraffic x = told();
        e.says("Terms 3", "KINDS of PARTS: 0 PART; 1 GAPS, a PART");
        isOf(e, x, 0, 0, 1);
        e.says("Terms 3", "2 NAMES, a PART");
        isOf(e, x, 1, 0, 2);
        e.says("Terms 3", "3 GREAT, a PART");
        isOf(e, x, 2, 0, 3);
        e.says("Terms 3", "4 WALK, a GREAT one");
        isOf(e, x, 3, 0, 3, 4);
    }

    private static void empties(Edges e) {
        e.says("Terms 3", "5 EMPTY, a PART: all its WEIGHTS are 0, or it is LEFT OUT.");
        MadeTraffic x = told();
        MadeTraffic y = new MadeTraffic();
        for (int part = 0; part < 4; part++) {
            isOf(e, y, part, 0, 5);
            x.leave(part, 1);
            isOf(e, x, part, 0, 5);
        }
        String[] one = {"gap 9 1;", "depth 9 1;", "great 9 1;", "walk 2 2 1;"};
        String[] zero = {"gap 9 0;", "depth 9 0;", "great 9 0;", "walk 2 2 0;"};
        for (int part = 0; part < 4; part++) {
            Check.model(y, one[part]);
            e.due("one weight, part " + part, y.kind(part), part + 1);
            Check.model(y, zero[part]);
            e.due("0 again, part " + part, y.kind(part), 5);
        }
        Check.model(y, "new 1;");
        e.due("NEW alone", y.kind(1), 2);
        e.says("Terms 3", "It is told as EMPTY, if it is that, else as its own: by this it is asked.");
        for (int part = 0; part < 4; part++) {
            e.due("left out, part " + part, x.kind(part), 5);
            x.ask(part, 0);
            e.due("asked as an empty one, part " + part, x.trace(0), 14);
            x.leave(part, 0);
            e.due("its own, part " + part, x.kind(part), part + 1);
            x.ask(part, 0);
            e.due("asked as its own, part " + part, x.trace(0), new int[] {10, 11, 12, 13}[part]);
        }
    }

    private static void asked(Edges e, MadeTraffic x, int part, int what, int answer, int... bodies) {
        e.due("ask " + part + " " + what, x.ask(part, what), answer);
        for (int i = 0; i < 8; i++) {
            e.due("trace " + i, x.trace(i), i < bodies.length ? bodies[i] : Edges.NONE);
        }
    }

    private static void bodies(Edges e) {
        MadeTraffic x = told();
        e.says("Terms 4", "0 SIZE: 10 lent to all PARTS: its WEIGHTS as told, added.");
        asked(e, x, 0, 0, 7, 10);
        e.says("Terms 4", "11 of NAMES: what 10 gives, and MARK.");
        asked(e, x, 1, 0, 11 + 4, 11, 10, 21, 20);
        e.says("Terms 4", "12 of GREAT ones: what 10 gives, twice.");
        asked(e, x, 2, 0, 22, 12, 10);
        e.says("Terms 4", "13 of WALKS: what 12 gives, less MARK.");
        asked(e, x, 3, 0, 84 - 206, 13, 12, 10, 23, 22, 20);
        e.says("Terms 4", "1 MARK: 20 lent to all PARTS: its number.");
        asked(e, x, 0, 1, 0, 20);
        e.says("Terms 4", "21 of NAMES: what 20 gives, and how many ASKS the TRUE row has.");
        asked(e, x, 1, 1, 1 + 3, 21, 20);
        MadeTraffic full = Edges.withNames(new int[40]);
        Check.model(full, "new 1;");
        asked(e, full, 1, 1, 41, 21, 20);
        MadeTraffic none = Edges.withModel("new 1;");
        asked(e, none, 1, 1, 1, 21, 20);
        e.says("Terms 4", "22 of GREAT ones: what 20 gives, and 100.");
        asked(e, x, 2, 1, 102, 22, 20);
        e.says("Terms 4", "23 of WALKS: what 22 gives, twice.");
        asked(e, x, 3, 1, 206, 23, 22, 20);
        e.says("Terms 4", "14 of EMPTY ones: 0 less what 10 gives.");
        int[] sizes = {7, 11, 11, 42};
        for (int part = 0; part < 4; part++) {
            x.leave(part, 1);
            asked(e, x, part, 0, -sizes[part], 14, 10);
            asked(e, new MadeTraffic(), part, 0, 0, 14, 10);
        }
        e.says("Terms 4", "Of an ask the BODY told for the KIND begins, else that of the nearest KIND that it is, too, else the one that is lent");
        for (int part = 0; part < 4; part++) {
            asked(e, x, part, 1, part, 20);
            asked(e, new MadeTraffic(), part, 1, part, 20);
        }
    }

    private static void traces(Edges e) {
        e.says("Terms 4", "ASKS of PARTS, by BODIES, each of which leaves its number in THE TRACE as it begins (the first 16)");
        // No ask begins more than six bodies; they do not add up over asks.
        MadeTraffic x = told();
        for (int i = 0; i < 4; i++) {
            asked(e, x, 3, 0, 84 - 206, 13, 12, 10, 23, 22, 20);
        }
        for (int i = 6; i < 18; i++) {
            e.due("trace " + i, x.trace(i), Edges.NONE);
        }
        e.says("Terms 4", "SIZE, MARK within others are asked of the same PART anew.");
        asked(e, x, 1, 0, 11 + 4, 11, 10, 21, 20);
        asked(e, x, 3, 0, 84 - 206, 13, 12, 10, 23, 22, 20);
    }

    private static void kindOf(Edges e) {
        e.says("Promise 25", "The KIND of a PART (0 to 3), as it is told.");
        MadeTraffic x = told();
        for (int part = 0; part < 4; part++) {
            e.due("kind " + part, x.kind(part), part + 1);
            e.due("kind " + part + " of a new one", new MadeTraffic().kind(part), 5);
        }
        e.says("Promise 25", "BAD.");
        int[] bad = {-1, 4, Edges.LOW, Edges.HIGH};
        for (int part : bad) {
            e.due("kind " + part, x.kind(part), Edges.BAD);
        }
    }

    private static void as(Edges e) {
        e.says("Promise 26", "A PART is taken as one of a KIND (0 .. 5): its number.");
        MadeTraffic x = told();
        for (int part = 0; part < 4; part++) {
            e.due("part " + part + " as a part", x.as(part, 0), part);
            e.due("part " + part + " as its own", x.as(part, part + 1), part);
            e.due("part " + part + " as an empty one", new MadeTraffic().as(part, 5), part);
        }
        e.says("Promise 26", "BAD; KIND: it is no such one.");
        int[][] bad = {{-1, 0}, {4, 0}, {Edges.LOW, 0}, {Edges.HIGH, 0}, {0, -1}, {0, 6}, {0, Edges.LOW}, {0, Edges.HIGH}};
        for (int[] b : bad) {
            e.due("as " + b[0] + " " + b[1], x.as(b[0], b[1]), Edges.BAD);
        }
        e.due("gaps as empty ones", x.as(0, 5), Edges.KIND);
        e.due("a great one as a walk", x.as(2, 4), Edges.KIND);
        e.due("an empty walk as a great one", new MadeTraffic().as(3, 3), Edges.KIND);
        e.due("an empty walk as a walk", new MadeTraffic().as(3, 4), Edges.KIND);
    }

    private static void ask(Edges e) {
        MadeTraffic x = told();
        e.says("Promise 27", "An ASK (0, 1) of a PART.");
        e.due("0", x.ask(0, 0), 7);
        e.due("1", x.ask(3, 1), 206);
        e.says("Promise 27", "BAD.");
        int[][] bad = {{-1, 0}, {4, 0}, {Edges.LOW, 1}, {Edges.HIGH, 0}, {0, -1}, {0, 2}, {0, Edges.LOW}, {0, Edges.HIGH}};
        for (int[] b : bad) {
            e.due("ask " + b[0] + " " + b[1], x.ask(b[0], b[1]), Edges.BAD);
        }
        e.due("a refused ask leaves the trace", x.trace(2), 20);
        e.says("Promise 27", "THE TRACE is empty ahead of it.");
        x.ask(0, 1);
        e.due("of the one before", x.trace(1), Edges.NONE);
        e.due("of this one", x.trace(0), 20);
    }

    private static void trace(Edges e) {
        e.says("Promise 28", "Number i of THE TRACE; NONE.");
        MadeTraffic x = told();
        e.due("no ask yet", x.trace(0), Edges.NONE);
        x.ask(2, 0);
        e.due("0", x.trace(0), 12);
        e.due("1", x.trace(1), 10);
        int[] none = {2, -1, 15, 16, Edges.LOW, Edges.HIGH};
        for (int i : none) {
            e.due("trace " + i, x.trace(i), Edges.NONE);
        }
    }

    private static void count(Edges e) {
        e.says("Promise 29", "How many: 0 SHEETS, 1 TRUE ASKS, 2 MADE ones, 3 PARTS that are EMPTY, 4 in THE PURSE, 5 bytes on the tape.");
        MadeTraffic x = Edges.withNames(new int[40]);
        for (int sheet = 0; sheet < 8; sheet++) {
            x.sheet(sheet, 0, 0);
        }
        x.make(1, 40);
        for (int i = 0; i < 10; i++) {
            x.learn(0, 0, 1);
        }
        Check.model(x, "gap 1 1; new 1; great 1 1; walk 0 0 1;");
        for (int i = 0; i < 50; i++) {
            x.feed(0, 8);
        }
        int[] most = {8, 40, 40, 0, 0, 400};
        for (int what = 0; what < 6; what++) {
            e.due("all there can be, " + what, x.count(what), most[what]);
        }
        x.drop(7);
        x.leave(2, 1);
        x.make(1, 0);
        x.model();
        int[] then = {7, 40, 0, 1, 0, 0};
        for (int what = 0; what < 6; what++) {
            e.due("then, " + what, x.count(what), then[what]);
        }
        e.says("Promise 29", "BAD.");
        int[] bad = {-1, 6, Edges.LOW, Edges.HIGH};
        for (int what : bad) {
            e.due("count " + what, x.count(what), Edges.BAD);
        }
    }
}
