/** Promises 16 to 19. */
public final class HouseTest {
    private static final Check check = new Check();
    private static final int BAD = MadeTraffic.BAD, STATE = MadeTraffic.STATE;

    public static void main(String[] args) {
        houses();
        wrongNumbers();
        openAndClosed();
        caches();
        halves();
        unlikes();
        worths();
        worthIsOfTheModelAsItIsNow();
        check.end();
    }

    private static void houses() {
        MadeTraffic x = new MadeTraffic();
        int[][] bad = {{0, 1, 0}, {7, 1, 0}, {1, 0, 0}, {1, 10, 0}, {1, 1, -1}, {1, 1, 100}};
        Check.asks(x, 0, 0, 1, 0, 1, 1, 0, 2, 1, 0, 0, 1, 0, 2, 1);
        check.due("at first for two names: only the last is a hit", x.number(0, 0, 0), 1);
        check.due("two went out", x.number(0, 5, 0), 2);
        x = new MadeTraffic();
        Check.asks(x, 0, 0, 3);
        check.due("at first 1 and 5 more and 3", x.number(0, 3, 0), 9);
        for (int[] b : bad) {
            check.due("house " + b[0] + " " + b[1] + " " + b[2], x.house(b[0], b[1], b[2]), BAD);
        }
        check.due("refused changes nothing", x.number(0, 3, 0), 9);
        check.due("least", x.house(1, 1, 0), 1);
        check.due("1 and 3", x.number(0, 3, 0), 4);
        check.due("most", x.house(6, 9, 99), 1);
        check.due("9 and 99 and 3", x.number(0, 3, 0), 111);
    }

    private static void wrongNumbers() {
        MadeTraffic x = new MadeTraffic();
        int[][] bad = {{-1, 0, 0}, {4, 0, 0}, {0, -1, 0}, {0, 6, 0}, {0, 0, -1}, {0, 0, 5}};
        for (int[] b : bad) {
            check.due("number " + b[0] + " " + b[1] + " " + b[2], x.number(b[0], b[1], b[2]), BAD);
        }
        for (int row = 0; row < 4; row++) {
            for (int what = 0; what < 6; what++) {
                check.due("of no asks", x.number(row, what, 4), 0);
            }
        }
        check.due("unlike -1", x.unlike(-1), BAD);
        check.due("unlike 5", x.unlike(5), BAD);
        check.due("worth part -1", x.worth(-1, 0), BAD);
        check.due("worth part 4", x.worth(4, 0), BAD);
        check.due("worth k -1", x.worth(0, -1), BAD);
        check.due("worth k 5, ahead of STATE", x.worth(0, 5), BAD);
        check.due("worth STATE", x.worth(0, 0), STATE);
    }

    private static void numbers(MadeTraffic x, int row, int k, int... due) {
        for (int what = 0; what < 6; what++) {
            check.due("number " + row + " " + what + " " + k, x.number(row, what, k), due[what]);
        }
    }

    private static void openAndClosed() {
        MadeTraffic x = new MadeTraffic();
        x.house(2, 2, 3);
        Check.asks(x, 1, 0, 1, 2, 1, 2, 2, 0, 9, 30, 2, 1, 31, 1, 1);
        // They take 6, 7, 2, 6, 6. Open: 1-7, 7-14, 14-16, 30-36, 36-42; waits 0 5 12 0 5.
        numbers(x, 0, 0, 1, 22, 12, 42, 3, 2);
        // By one: 1-7, 8-15, 15-17, 45-51, 52-58: none waits.
        numbers(x, 0, 1, 1, 0, 0, 58, 3, 2);
        // By two: comes 1 2 7 42 17; 1-7, 7-14, 14-16, 42-48, 48-54; waits 0 5 7 0 31.
        numbers(x, 0, 2, 1, 43, 31, 54, 3, 2);
        // By three: comes 1 2 2 35 15 -> 1-7, 7-14, 14-16, 35-41, 41-47; waits 0 5 12 0 26.
        numbers(x, 0, 3, 1, 43, 26, 47, 3, 2);
        // By four: comes 1 2 2 30 8 -> 30-36, 36-42; waits 0 5 12 0 28.
        numbers(x, 0, 4, 1, 45, 28, 42, 3, 2);
    }

    private static void caches() {
        MadeTraffic x = new MadeTraffic();
        // 0 1 2 0 3 0 1 2 with room for c: the one asked longest ago goes out.
        Check.asks(x, 0, 0, 1, 0, 1, 1, 0, 2, 1, 0, 0, 1, 0, 3, 1, 0, 0, 1, 0, 1, 1, 0, 2, 1);
        int[] hits = {0, 1, 2, 4, 4, 4};
        int[] outs = {7, 5, 3, 0, 0, 0};
        for (int c = 1; c <= 6; c++) {
            x.house(c, 1, 0);
            check.due("hits of " + c, x.number(0, 0, 0), hits[c - 1]);
            check.due("outs of " + c, x.number(0, 5, 0), outs[c - 1]);
            check.due("names", x.number(0, 4, 0), 4);
            check.due("end", x.number(0, 3, 0), 16 - hits[c - 1]);
        }
    }

    private static void halves() {
        MadeTraffic x = new MadeTraffic();
        Check.asks(x, 1, 3, 1, 2, 4, 9, 4, 3, 1, 8, 5, 2, 20, 3, 1);
        // Even: 3 at 1, 4, 20: takes 7, 1, 1; odd: 4 at 2, 5 at 8: takes 15, 8.
        numbers(x, 2, 0, 2, 4, 4, 21, 1, 0);
        numbers(x, 3, 0, 0, 9, 9, 25, 2, 0);
        // Closed by one, by the gaps of the half: 1-8, 11-12, 28-29; 2-17, 23-31.
        numbers(x, 2, 1, 2, 0, 0, 29, 1, 0);
        numbers(x, 3, 1, 0, 0, 0, 31, 2, 0);
        x.stretch(2);
        check.due("the made row is another", x.number(1, 4, 0), 4);
    }

    private static void unlikes() {
        MadeTraffic x = new MadeTraffic();
        check.due("nothing is like nothing", x.unlike(0), 0);
        x.make(0, 1);
        // Made: one miss of 7 ticks from 1 on: last end 8, one name.
        check.due("last end and names", x.unlike(0), 8 | 16);
        Check.asks(x, 1, 0, 1);
        check.due("the true one itself", x.unlike(0), 0);
        x.house(1, 9, 99);
        check.due("whatever the house", x.unlike(3), 0);
        x.house(2, 1, 5);
        x.make(0, 3);
        // Made: 1-8, 8-9, 9-10: 2 hits, waits 12, 6; halves: (1 hit none) 8, 1 name; of none 0.
        check.due("hits, waits, the longest", x.unlike(0), 1 | 2 | 4);
        MadeTraffic y = new MadeTraffic();
        Check.asks(y, 0, 0, 1, 0, 1, 1, 1, 0, 1, 1, 2, 1);
        y.stretch(1);
        check.due("a row is like itself", y.unlike(0) | y.unlike(1) | y.unlike(4), 0);
        for (int k = 0; k <= 4; k++) {
            y.make(3, 4);
            check.due("by its words, " + k, y.unlike(k), unlikeByNumbers(y, k));
            y.stretch(3);
            check.due("by its words, " + k, y.unlike(k), unlikeByNumbers(y, k));
        }
    }

    private static int unlikeByNumbers(MadeTraffic x, int k) {
        int bits = 0;
        for (int what = 0; what < 6; what++) {
            int far = Math.abs(x.number(1, what, k) - x.number(0, what, k));
            if (far > Math.abs(x.number(2, what, k) - x.number(3, what, k))) {
                bits |= 1 << what;
            }
        }
        return bits;
    }

    private static MadeTraffic told() {
        MadeTraffic x = new MadeTraffic();
        Check.asks(x, 0, 0, 1, 3, 1, 1, 4, 2, 9, 4, 0, 1, 9, 3, 1, 12, 1, 2);
        Check.model(x, "gap 0 2; gap 3 3; gap 5 1; depth 0 1; depth 1 2; depth 2 2; new 3;"
                + "great 1 4; great 2 1; great 9 1; walk 0 1 1; walk 0 0 1; walk 1 0 1;");
        return x;
    }

    private static void worths() {
        int seen = 0;
        for (int seed = 0; seed < 20; seed++) {
            for (int part = 0; part < 4; part++) {
                MadeTraffic x = told();
                x.make(seed, 6);
                int unlike = x.unlike(0);
                int unlikeBy2 = x.unlike(2);
                int worth = x.worth(part, 0);
                int worthBy2 = x.worth(part, 2);
                check.due("worth leaves the made row", x.unlike(0), unlike);
                x.leave(part, 1);
                x.make(seed, 6);
                check.due("worth " + seed + " " + part, worth, x.unlike(0) & ~unlike);
                check.due("worth by 2 " + seed + " " + part, worthBy2, x.unlike(2) & ~unlikeBy2);
                seen |= worth | worthBy2;
            }
        }
        check.isTrue("some worth was seen", seen != 0);
        MadeTraffic y = told();
        y.make(1, 6);
        y.stretch(1);
        check.due("made by no seed", y.worth(0, 0), STATE);
        y.make(1, 0);
        check.isTrue("made by a seed again", y.worth(0, 0) != STATE);
    }

    private static void worthIsOfTheModelAsItIsNow() {
        for (int seed = 0; seed < 20; seed++) {
            MadeTraffic x = told();
            x.make(seed, 6);
            int unlike = x.unlike(0);
            x.leave(1, 1);
            Check.model(x, "gap 5 9;");
            int worth = x.worth(0, 0);
            int worthOfNames = x.worth(1, 0);
            check.due("still left out", x.leave(1, 1), 1);
            x.make(seed, 6);
            check.due("left out already", worthOfNames, x.unlike(0) & ~unlike);
            x.leave(0, 1);
            x.make(seed, 6);
            check.due("names left out, gaps too", worth, x.unlike(0) & ~unlike);
        }
    }
}
