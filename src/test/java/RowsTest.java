/** Promises 6 to 8. */
public final class RowsTest {
    private static final Check check = new Check();
    private static final int NONE = MadeTraffic.NONE, BAD = MadeTraffic.BAD, FULL = MadeTraffic.FULL;
    private static final int NULL = -1000011, PLACE = -1000012;

    public static void main(String[] args) {
        asksWrongly();
        asksWithWrongItems();
        fullRow();
        tellings();
        cames();
        check.end();
    }

    private static void asksWrongly() {
        MadeTraffic x = new MadeTraffic();
        check.due("sheet", x.asks(-1, 0, 1), BAD);
        check.due("sheet", x.asks(8, 0, 1), BAD);
        check.due("n 0", x.asks(0, 0, 0), BAD);
        check.due("n 21", x.asks(0, 0, 21), BAD);
        check.due("n low", x.asks(0, 0, Integer.MIN_VALUE), BAD);
        check.due("missing", x.asks(0, -5, 1), NULL);
        x.sheet(0, 2, 6);
        check.due("i -1", x.asks(0, -1, 1), PLACE);
        check.due("i 4", x.asks(0, 4, 1), PLACE);
        check.due("n 3", x.asks(0, 0, 3), PLACE);
        check.due("i high", x.asks(0, Integer.MAX_VALUE, 20), PLACE);
        check.due("i low", x.asks(0, Integer.MIN_VALUE, 20), PLACE);
        check.due("PLACE ahead of the items", x.asks(0, 1, 2), PLACE);
        check.due("none came", x.count(1), 0);
        x.set(0, 5, 9);
        check.due("the last three", x.asks(0, 3, 1), 1);
    }

    private static void asksWithWrongItems() {
        int[][] wrong = {{-1, 0, 1}, {10000, 0, 1}, {5, -1, 1}, {5, 10, 1}, {5, 0, 0}, {5, 0, 10}, {5, 0, -1}, {4, 0, 1}};
        for (int[] w : wrong) {
            MadeTraffic x = new MadeTraffic();
            check.due("the first", Check.asks(x, 5, 0, 1), 1);
            check.due("wrong " + w[0] + " " + w[1] + " " + w[2], Check.asks(x, w), BAD);
            int got = Check.asks(x, 9999, 9, 9, w[0], w[1], w[2]);
            check.due("wrong behind a right one", got, BAD);
            check.due("none came", x.count(1), 1);
        }
        MadeTraffic x = new MadeTraffic();
        check.due("edges", Check.asks(x, 0, 0, 1, 0, 9, 9, 9999, 9, 1, 9999, 0, 9), 4);
        check.due("a tick below that within", Check.asks(x, 9998, 0, 1), BAD);
    }

    private static void fullRow() {
        MadeTraffic x = new MadeTraffic();
        x.sheet(0, 0, 60);
        for (int i = 0; i < 20; i++) {
            x.set(0, 3 * i, i);
            x.set(0, 3 * i + 2, 1);
        }
        check.due("20", x.asks(0, 0, 20), 20);
        check.due("falls", x.asks(0, 0, 20), BAD);
        for (int i = 0; i < 20; i++) {
            x.set(0, 3 * i, 19);
        }
        check.due("39", x.asks(0, 0, 19), 39);
        check.due("two more are too many", x.asks(0, 0, 2), FULL);
        check.due("FULL ahead of NULL", x.asks(1, 0, 2), FULL);
        check.due("BAD ahead of FULL", x.asks(0, 0, 21), BAD);
        check.due("40", x.asks(0, 57, 1), 40);
        check.due("one more is too many", x.asks(0, 0, 1), FULL);
        check.due("still 40", x.count(1), 40);
    }

    private static void tellings() {
        MadeTraffic x = new MadeTraffic();
        check.due("row -1", x.told(-1, 0, 0), BAD);
        check.due("row 2", x.told(2, 0, 0), BAD);
        check.due("i -1", x.told(0, -1, 0), BAD);
        check.due("what -1", x.told(0, 0, -1), BAD);
        check.due("what 5", x.told(0, 99, 5), BAD);
        Check.asks(x, 3, 4, 9, 3, 5, 1, 10, 4, 2, 11, 4, 2, 12, 6, 2, 12, 5, 7);
        check.due("not so many", x.told(0, 6, 0), NONE);
        check.due("not so many", x.told(0, Integer.MAX_VALUE, 4), NONE);
        check.due("made has none", x.told(1, 0, 4), NONE);
        int[][] due = {{3, 4, 9, NONE, 3}, {3, 5, 1, NONE, 0}, {10, 4, 2, 1, 7}, {11, 4, 2, 0, 1},
            {12, 6, 2, NONE, 1}, {12, 5, 7, 2, 0}};
        for (int i = 0; i < due.length; i++) {
            for (int what = 0; what < 5; what++) {
                check.due("told " + i + " " + what, x.told(0, i, what), due[i][what]);
            }
        }
        x.stretch(2);
        check.due("made row's depth", x.told(1, 2, 3), 0);
        check.due("made row's gap", x.told(1, 4, 4), 7);
        check.due("true row's depth", x.told(0, 2, 3), 1);
    }

    private static void cames() {
        MadeTraffic x = new MadeTraffic();
        check.due("d -1", x.came(-1), BAD);
        check.due("d 11", x.came(11), BAD);
        for (int d = 0; d < 11; d++) {
            check.due("of none", x.came(d), 0);
        }
        int[] items = new int[39];
        for (int i = 0; i < 13; i++) {
            items[3 * i] = i;
            items[3 * i + 1] = i < 11 ? i % 10 : 9;
            items[3 * i + 2] = 1;
        }
        // 0 1 .. 9 0 9 9: ten new ones, then depths 9, 1, 0.
        check.due("asks", Check.asks(x, items), 13);
        int[] due = {1, 1, 0, 0, 0, 0, 0, 0, 0, 1, 10};
        for (int d = 0; d < 11; d++) {
            check.due("came " + d, x.came(d), due[d]);
        }
    }
}
