/** Sentences of lots and made rows: promises 14 and 15. */
final class MadeEdges {
    private MadeEdges() { }

    static void run(Edges e) {
        lots(e);
        draws(e);
        drawsOfNames(e);
        deepDraws(e);
        noWeights(e);
        ticks(e);
        names(e);
        greatness(e);
        walk(e);
        making(e);
        stretched(e);
        stretching(e);
    }

    /** Gaps all of weight 99: each is told by its lot modulo 990. */
    private static MadeTraffic evenGaps() {
        StringBuilder text = new StringBuilder();
        for (int gap = 0; gap < 10; gap++) {
            text.append("gap ").append(gap).append(" 99;");
        }
        return Edges.withModel(text.toString());
    }

    private static void lots(Edges e) {
        e.says("Terms 2", "each time x becomes x times 6364136223846793005 and 1442695040888963407 more (64 bits, going round)");
        long[] seeds = {0, 1, -1, 2, 4294967296L, Long.MAX_VALUE, Long.MIN_VALUE, Long.MIN_VALUE + 1};
        MadeTraffic x = evenGaps();
        int wide = 0;
        for (long seed : seeds) {
            int[] lots = Edges.lots(seed, 40);
            e.due("lots of " + seed, x.make(seed, 40), 40);
            for (int i = 0; i < 40; i += 3) {
                e.due("lot " + i + " of " + seed, x.told(1, i, 4), lots[i] % 990 / 99);
                wide += lots[i] >= 1 << 30 ? 1 : 0;
            }
        }
        e.isTrue("some x had the highest bit", wide > 0);
        e.says("Terms 2", "the LOT is x without its lowest 33 bits (as if it had no sign)");
        for (long seed = 0; seed < 40; seed++) {
            long first = seed * 6364136223846793005L + 1442695040888963407L;
            x.make(seed, 1);
            int due = (int) (Long.divideUnsigned(first, 1L << 33) % 990 / 99);
            e.due("the lot of " + first, x.told(1, 0, 4), due);
        }
        e.says("Terms 2", "LOTS from a seed (a long): x is it");
        x.make(5, 40);
        MadeTraffic y = evenGaps();
        y.make(6, 3);
        y.make(5, 40);
        for (int i = 0; i < 40; i++) {
            e.due("from the seed alone", y.told(1, i, 0), x.told(1, i, 0));
        }
    }

    private static void draws(Edges e) {
        e.says("Terms 2", "A DRAW by WEIGHTS: where they come to W (above 0): LOT modulo W, the first by numbers up to which WEIGHTS, added, are more than that");
        MadeTraffic x = Edges.withModel("gap 2 3; gap 5 2; gap 9 1;");
        int[] gaps = {2, 2, 2, 5, 5, 9};
        for (int rest = 0; rest < 6; rest++) {
            x.make(Edges.seedFor(0, 6, rest), 1);
            e.due("gap of " + rest, x.told(1, 0, 4), gaps[rest]);
        }
        x = Edges.withModel("great 1 1; great 4 2; great 9 2;");
        int[] greats = {1, 4, 4, 9, 9};
        for (int rest = 0; rest < 5; rest++) {
            x.make(Edges.seedFor(0, 5, rest), 1);
            e.due("greatness of " + rest, x.told(1, 0, 2), greats[rest]);
        }
        x = Edges.withModel("walk 0 0 1; walk 0 1 2; walk 0 2 1;");
        int[] states = {0, 1, 1, 2};
        for (int rest = 0; rest < 4; rest++) {
            x.make(Edges.seedFor(0, 4, rest), 2);
            e.due("1 and the state of " + rest, x.told(1, 1, 2), 1 + states[rest]);
        }
        x = Edges.withModel("gap 7 1;");
        e.due("W 1 takes lots, too", x.make(3, 2), 2);
        e.due("W 1", x.told(1, 1, 0), 14);
    }

    /** Two names are asked ahead of the third draw: depth 0 of weight 2, depth 1 of 3, NEW of 1. */
    private static void drawsOfNames(Edges e) {
        e.says("Terms 2", "a DRAW of the DEPTH, of those below how many NAMES were asked, and then, as the last, of NEW");
        MadeTraffic x = Edges.withModel("depth 0 2; depth 1 3; depth 2 50; new 1;");
        int[] names = {1, 1, 0, 0, 0, 2};
        int seen = 0;
        for (long seed = 0; seen != 63 && seed < 10000; seed++) {
            int[] lots = Edges.lots(seed, 3);
            int rest = lots[2] % 6;
            if (lots[1] % 3 == 2 && (seen & 1 << rest) == 0) {
                seen |= 1 << rest;
                e.due("a lot each", x.make(seed, 3), 3);
                e.due("the second is new", x.told(1, 1, 1), 1);
                e.due("name of " + rest, x.told(1, 2, 1), names[rest]);
            }
        }
        e.due("all were seen", seen, 63);
        x.make(Edges.seedFor(1, 3, 1), 2);
        e.due("depth 0, not NEW", x.told(1, 1, 1), 0);
        x = Edges.withModel("depth 1 9; depth 2 9;");
        e.due("depths that lie too deep have no lot", x.make(1, 5), 0);
        x = Edges.withModel("depth 1 9; new 1;");
        x.make(Edges.seedFor(2, 10, 0), 3);
        e.due("the second is new", x.told(1, 1, 1), 1);
        e.due("depth 1 of two", x.told(1, 2, 1), 0);
    }

    /** Draws the depths of a row by hand: each must be the one that the row then tells. */
    private static void deepDraws(Edges e) {
        e.says("Terms 2", "if fewer than 10 were");
        int[] weights = {3, 2, 4, 1, 2, 1, 1, 2, 1, 3};
        StringBuilder text = new StringBuilder("new 6;");
        for (int d = 0; d < 10; d++) {
            text.append("depth ").append(d).append(' ').append(weights[d]).append(';');
        }
        MadeTraffic x = Edges.withModel(text.toString());
        for (long seed = 0; seed < 6; seed++) {
            int[] lots = Edges.lots(seed, 40);
            x.make(seed, 40);
            int names = 0;
            for (int i = 0; i < 40; i++) {
                int all = names < 10 ? 6 : 0;
                for (int d = 0; d < names; d++) {
                    all += weights[d];
                }
                int due = 0;
                int added = names == 0 ? 0 : weights[0];
                while (due < names && added <= lots[i] % all) {
                    due++;
                    added += due < names ? weights[due] : 6;
                }
                e.due("ask " + i + " of seed " + seed, x.told(1, i, 3), due == names ? Edges.NONE : due);
                names += due == names ? 1 : 0;
            }
        }
    }

    private static void noWeights(Edges e) {
        e.says("Terms 2", "where W is 0 no LOT is taken");
        e.due("of nothing", new MadeTraffic().make(9, 40), 0);
        e.due("of gaps", Edges.withModel("gap 0 1;").make(9, 40), 40);
        e.due("of greatness", Edges.withModel("great 1 1;").make(9, 40), 40);
        e.due("of depth 0, but for the first", Edges.withModel("depth 0 1;").make(9, 40), 39);
        e.due("of new ones, while there are some", Edges.withModel("new 1;").make(9, 40), 10);
        e.due("of state 0 that stays", Edges.withModel("walk 0 0 1;").make(9, 40), 40);
        e.due("of state 0 that is left", Edges.withModel("walk 0 1 1;").make(9, 40), 1);
        e.due("of states that are not reached", Edges.withModel("walk 1 0 1; walk 2 0 1;").make(9, 40), 0);
    }

    private static void ticks(Edges e) {
        e.says("Terms 2", "MADE are n ASKS one by one, the TICK of the first from 0 on");
        MadeTraffic x = Edges.withModel("gap 0 1;");
        x.make(1, 40);
        e.due("gap 0: the first", x.told(1, 0, 0), 0);
        e.due("gap 0: the last", x.told(1, 39, 0), 0);
        x = Edges.withModel("gap 9 1;");
        x.make(1, 2);
        e.due("gap 9: the first", x.told(1, 0, 0), 9);
        e.due("gap 9: the second", x.told(1, 1, 0), 18);
        x.make(1, 1);
        e.due("gap 9: the first, made again", x.told(1, 0, 0), 9);
        e.says("Terms 2", "a DRAW of the GAP (W 0: 1)");
        x = Edges.withModel("gap 9 1; gap 9 0; new 1;");
        x.make(1, 40);
        e.due("the first", x.told(1, 0, 0), 1);
        e.due("the last", x.told(1, 39, 0), 40);
        // The most that 40 gaps come to is 360: no made tick is ever cut.
        e.says("Terms 2", "A TICK above 9999 is 9999.");
        x = Edges.withModel("gap 9 99;");
        x.make(1, 40);
        e.due("the highest tick there is", x.told(1, 39, 0), 360);
    }

    private static void names(Edges e) {
        e.says("Terms 2", "of NEW, if fewer than 10 were (W 0: NEW, if none was, else DEPTH 0)");
        MadeTraffic x = Edges.withModel("new 1;");
        e.due("ten lots", x.make(1, 12), 10);
        for (int i = 0; i < 12; i++) {
            e.due("name " + i, x.told(1, i, 1), Math.min(i, 9));
        }
        e.due("nine asked: a lot", x.make(1, 9), 9);
        x = Edges.withModel("new 99; depth 9 1;");
        e.due("a lot each", x.make(1, 31), 31);
        e.due("ten asked: depth 9 alone", x.told(1, 10, 1), 0);
        e.due("and again", x.told(1, 30, 1), 0);
        x = new MadeTraffic();
        x.make(1, 3);
        e.due("W 0: NEW", x.told(1, 0, 3), Edges.NONE);
        e.due("W 0: depth 0", x.told(1, 1, 3), 0);
        e.due("W 0: depth 0", x.told(1, 2, 3), 0);
        x = Edges.withModel("depth 0 1;");
        x.make(1, 2);
        e.due("W 0 for the first alone: NEW", x.told(1, 0, 3), Edges.NONE);
        e.due("depth 0", x.told(1, 1, 3), 0);
        e.says("Terms 2", "NEW: the least NAME that was not");
        x = Edges.withModel("depth 1 1; new 1;");
        int least = 0;
        x.make(8, 40);
        for (int i = 0; i < 40; i++) {
            if (x.told(1, i, 3) == Edges.NONE) {
                e.due("new name at " + i, x.told(1, i, 1), least);
                least++;
            }
        }
        e.isTrue("several were new", least > 3);
    }

    private static void greatness(Edges e) {
        e.says("Terms 2", "a DRAW of GREATNESS (W 0: 1), to which the STATE comes, 9 at most");
        int[][] due = {{1, 1, 2, 3}, {6, 6, 7, 8}, {7, 7, 8, 9}, {8, 8, 9, 9}, {9, 9, 9, 9}};
        for (int[] d : due) {
            MadeTraffic x = Edges.withModel("walk 0 1 1; walk 1 2 1; great " + d[0] + " 1;");
            x.make(1, 3);
            for (int i = 0; i < 3; i++) {
                e.due("greatness " + d[0] + " in state " + i, x.told(1, i, 2), d[i + 1]);
            }
        }
        MadeTraffic x = Edges.withModel("walk 0 1 1; walk 1 2 1;");
        x.make(1, 3);
        for (int i = 0; i < 3; i++) {
            e.due("W 0 in state " + i, x.told(1, i, 2), 1 + i);
        }
    }

    private static void walk(Edges e) {
        e.says("Terms 2", "the STATE 0 at first");
        MadeTraffic x = Edges.withModel("walk 0 2 1;");
        for (int again = 0; again < 2; again++) {
            x.make(1, 2);
            e.due("the first", x.told(1, 0, 2), 1);
            e.due("the second", x.told(1, 1, 2), 3);
        }
        e.says("Terms 2", "then a DRAW of the next STATE by the WEIGHTS behind the one there is (W 0: it stays)");
        e.due("a lot behind the last ask, too", x.make(1, 1), 1);
        x.make(1, 5);
        e.due("state 2 stays", x.told(1, 4, 2), 3);
        x = Edges.withModel("walk 0 1 1; walk 1 0 1; walk 2 1 9;");
        e.due("a lot each", x.make(1, 6), 6);
        for (int i = 0; i < 6; i++) {
            e.due("to and fro " + i, x.told(1, i, 2), 1 + i % 2);
        }
        x = Edges.withModel("walk 1 2 1; walk 2 0 1;");
        x.make(1, 4);
        e.due("state 0 stays", x.told(1, 3, 2), 1);
    }

    private static void making(Edges e) {
        e.says("Promise 14", "n ASKS (0 to 40) are MADE from a seed, in place of those that were: how many LOTS were taken.");
        MadeTraffic x = Edges.withModel("gap 2 1; new 1;");
        e.due("40", x.make(1, 40), 50);
        e.due("40", x.count(2), 40);
        e.due("1", x.make(1, 1), 2);
        e.due("1", x.count(2), 1);
        e.due("none behind it", x.told(1, 1, 0), Edges.NONE);
        e.due("none", x.make(1, 0), 0);
        e.due("none", x.count(2), 0);
        e.due("none at all", x.told(1, 0, 0), Edges.NONE);
        e.due("the true row is another", x.count(1), 0);
        e.says("Promise 14", "BAD: n.");
        int[] bad = {-1, 41, Edges.LOW, Edges.HIGH};
        for (int n : bad) {
            e.due("n " + n, x.make(1, n), Edges.BAD);
        }
    }

    private static void stretched(Edges e) {
        e.says("Terms 3", "STRETCHED by f (1 to 4)");
        MadeTraffic x = Edges.withAsks(4, 8, 3, 6, 9, 7);
        e.due("f 0", x.stretch(0), Edges.BAD);
        for (int f = 1; f <= 4; f++) {
            e.due("f " + f, x.stretch(f), 2 * f);
        }
        e.due("f 5", x.stretch(5), Edges.BAD);
        e.says("Terms 3", "the MADE row becomes the TRUE row's ASKS");
        x.make(1, 40);
        e.due("in place of 40", x.stretch(1), 2);
        for (int i = 0; i < 3; i++) {
            for (int what = 0; what < 5; what++) {
                e.due("ask " + i + " as in the true row, " + what, x.told(1, i, what), x.told(0, i, what));
            }
        }
        x.stretch(4);
        e.says("Terms 3", "each f times at its TICK, of the j-th (0 on) the NAME (its NAME and j) modulo 10");
        int[][] due = {{4, 8, 3}, {4, 9, 3}, {4, 0, 3}, {4, 1, 3}, {6, 9, 7}, {6, 0, 7}, {6, 1, 7}, {6, 2, 7}};
        for (int i = 0; i < 8; i++) {
            for (int what = 0; what < 3; what++) {
                e.due("ask " + i + ", " + what, x.told(1, i, what), due[i][what]);
            }
        }
        e.says("Terms 3", "the first 40 of these");
        x = Edges.withNames(0, 1, 2, 3, 4, 5, 6, 7, 8, 9);
        e.due("40", x.stretch(4), 40);
        Check.asks(x, 50, 5, 2, 60, 6, 3, 70, 7, 4);
        e.due("39", x.stretch(3), 39);
        e.due("52, cut", x.stretch(4), 40);
        e.due("the last is of the tenth", x.told(1, 39, 0), 0);
        Check.asks(x, 80, 8, 5);
        e.due("42, cut", x.stretch(3), 40);
        e.due("the last is the first of the fourteenth", x.told(1, 39, 0), 80);
        e.due("its name", x.told(1, 39, 1), 8);
        x = Edges.withNames(new int[40]);
        e.due("40 of 40", x.stretch(1), 40);
        e.due("80, cut", x.stretch(2), 40);
        e.due("160, cut", x.stretch(4), 40);
    }

    private static void stretching(Edges e) {
        e.says("Promise 15", "STRETCHED by f: how many ASKS the MADE row has; it was MADE by no seed then.");
        MadeTraffic x = new MadeTraffic();
        x.make(1, 7);
        e.isTrue("made by a seed", x.worth(0, 0) != Edges.STATE);
        e.due("of no asks", x.stretch(4), 0);
        e.due("none", x.count(2), 0);
        e.due("by no seed", x.worth(0, 0), Edges.STATE);
        Check.asks(x, 1, 1, 1);
        x.make(1, 7);
        e.due("in place of 7", x.stretch(2), 2);
        e.due("2", x.count(2), 2);
        e.due("by no seed", x.worth(0, 0), Edges.STATE);
        Check.asks(x, 1, 1, 1);
        e.due("the made row stays as it is", x.count(2), 2);
        e.says("Promise 15", "BAD.");
        x.make(1, 7);
        int[] bad = {0, 5, -1, Edges.LOW, Edges.HIGH};
        for (int f : bad) {
            e.due("f " + f, x.stretch(f), Edges.BAD);
        }
        e.isTrue("still made by a seed", x.worth(0, 0) != Edges.STATE);
    }
}
