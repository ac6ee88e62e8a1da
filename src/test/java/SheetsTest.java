/** Promises 1 to 5, and status() (30) as these calls leave it. */
public final class SheetsTest {
    private static final Check check = new Check();
    private static final int BAD = MadeTraffic.BAD;
    private static final int NULL = -1000011, PLACE = -1000012, SIZE = -1000014, STORE = -1000015;
    private static final int LOW = Integer.MIN_VALUE, HIGH = Integer.MAX_VALUE;

    public static void main(String[] args) {
        newObject();
        sheets();
        setting();
        copying();
        copyingWrongly();
        dropping();
        statusOfCalls();
        check.end();
    }

    private static void newObject() {
        MadeTraffic x = new MadeTraffic();
        for (int sheet = 0; sheet < 8; sheet++) {
            check.due("new: drop", x.drop(sheet), NULL);
        }
        x = new MadeTraffic();
        check.due("new: status", x.status(), 0);
        check.due("new: fault", x.fault(), 0);
        int[] many = {0, 0, 0, 4, 100, 0};
        for (int what = 0; what < 6; what++) {
            check.due("new: count " + what, x.count(what), many[what]);
        }
        check.due("new: told true", x.told(0, 0, 0), MadeTraffic.NONE);
        check.due("new: told made", x.told(1, 0, 0), MadeTraffic.NONE);
        check.due("new: trace", x.trace(0), MadeTraffic.NONE);
        check.due("new: worth", x.worth(0, 0), MadeTraffic.STATE);
        for (int part = 0; part < 4; part++) {
            check.due("new: kind", x.kind(part), 5);
            check.due("new: leave", x.leave(part, 0), 0);
        }
        MadeTraffic other = new MadeTraffic();
        other.sheet(0, 0, 1);
        check.due("objects are apart", x.count(0), 0);
    }

    private static void sheets() {
        MadeTraffic x = new MadeTraffic();
        check.due("sheet -1", x.sheet(-1, 0, 1), BAD);
        check.due("sheet 8", x.sheet(8, 0, 1), BAD);
        check.due("sheet low", x.sheet(LOW, 0, 1), BAD);
        check.due("lane -1", x.sheet(0, -1, 1), BAD);
        check.due("lane 3", x.sheet(0, 3, 1), BAD);
        check.due("n 61", x.sheet(0, 0, 61), BAD);
        check.due("n high", x.sheet(0, 0, HIGH), BAD);
        check.due("n -1", x.sheet(0, 0, -1), SIZE);
        check.due("n low", x.sheet(0, 2, LOW), SIZE);
        check.due("BAD ahead of SIZE", x.sheet(0, 3, -1), BAD);
        check.due("none came", x.count(0), 0);
        check.due("n 0", x.sheet(0, 0, 0), 0);
        check.due("a sheet of none is there", x.count(0), 1);
        check.due("and has no place", x.set(0, 0, 1), PLACE);
        check.due("n 60", x.sheet(7, 2, 60), 60);
        check.due("last place", x.set(7, 59, 5), 5);
        check.due("behind it", x.set(7, 60, 5), PLACE);
        check.due("in place", x.sheet(7, 1, 2), 2);
        check.due("two", x.count(0), 2);
        check.due("found changes nothing", x.sheet(7, 0, -1), SIZE);
        check.due("still two items", x.drop(7), 2);
        itemsAreZero();
    }

    // Items can be read only through asks(): names of a new sheet are 0, greatness 0 is no ask.
    private static void itemsAreZero() {
        MadeTraffic x = new MadeTraffic();
        x.sheet(0, 2, 3);
        x.set(0, 1, 5);
        x.sheet(0, 2, 3);
        check.due("greatness is 0 at first", x.asks(0, 0, 1), BAD);
        x.set(0, 2, 1);
        check.due("asks", x.asks(0, 0, 1), 1);
        check.due("name is 0 again", x.told(0, 0, 1), 0);
        check.due("tick is 0", x.told(0, 0, 0), 0);
    }

    private static void setting() {
        MadeTraffic x = new MadeTraffic();
        check.due("BAD", x.set(-1, 0, 0), BAD);
        check.due("BAD", x.set(8, 0, 0), BAD);
        check.due("NULL", x.set(3, -1, 0), NULL);
        for (int lane = 0; lane < 3; lane++) {
            x.sheet(lane, lane, 2);
        }
        check.due("PLACE", x.set(0, -1, 0), PLACE);
        check.due("PLACE", x.set(0, 2, 0), PLACE);
        check.due("PLACE", x.set(0, HIGH, 0), PLACE);
        check.due("PLACE", x.set(0, LOW, 0), PLACE);
        int[] values = {0, 1, -1, 127, 128, 255, 256, -128, -129, 32767, 32768, 65535, 65536, -32769, HIGH, LOW};
        for (int v : values) {
            check.due("byte " + v, x.set(0, 1, v), (byte) v);
            check.due("short " + v, x.set(1, 1, v), (short) v);
            check.due("int " + v, x.set(2, 1, v), v);
        }
    }

    private static void copying() {
        MadeTraffic x = new MadeTraffic();
        x.sheet(0, 1, 9);
        for (int i = 0; i < 9; i++) {
            x.set(0, i, i + 1);
        }
        check.due("forward within one", x.copy(0, 0, 0, 1, 8), 8);
        // 1 1 2 3 4 5 6 7 8
        check.due("asks", x.asks(0, 0, 3), 3);
        check.due("tick", x.told(0, 1, 0), 3);
        check.due("name", x.told(0, 2, 1), 7);
        check.due("backward within one", x.copy(0, 1, 0, 0, 8), 8);
        // 1 2 3 4 5 6 7 8 8
        x.set(0, 0, 7);
        check.due("asks", x.asks(0, 0, 1), 4);
        check.due("name", x.told(0, 3, 1), 2);
        check.due("greatness", x.told(0, 3, 2), 3);
        x.sheet(1, 1, 4);
        check.due("to another", x.copy(0, 6, 1, 1, 3), 3);
        check.due("asks", x.asks(1, 1, 1), 5);
        check.due("tick", x.told(0, 4, 0), 7);
        check.due("name", x.told(0, 4, 1), 8);
        check.due("the first is sound", x.asks(0, 6, 1), 6);
        check.due("none, at the ends", x.copy(0, 9, 1, 4, 0), 0);
    }

    private static void copyingWrongly() {
        MadeTraffic x = new MadeTraffic();
        x.sheet(0, 0, 4);
        x.sheet(1, 1, 4);
        x.sheet(2, 0, 2);
        check.due("BAD", x.copy(-1, 0, 0, 0, 0), BAD);
        check.due("BAD", x.copy(0, 0, 8, 0, 0), BAD);
        check.due("BAD ahead of NULL", x.copy(5, 0, 8, 0, 0), BAD);
        check.due("NULL", x.copy(5, 0, 0, 0, 0), NULL);
        check.due("NULL", x.copy(0, 0, 5, 0, -1), NULL);
        check.due("STORE ahead of PLACE", x.copy(0, -1, 1, 0, 9), STORE);
        check.due("STORE, of none too", x.copy(0, 0, 1, 0, 0), STORE);
        int[][] places = {{-1, 0, 1}, {0, -1, 1}, {0, 0, -1}, {0, 0, 3}, {0, 1, 2}, {4, 0, 1}, {5, 0, 0},
            {0, 3, 0}, {HIGH, 0, 2}, {0, HIGH, 2}, {1, 1, HIGH}, {LOW, 0, LOW}, {0, 0, LOW}, {HIGH, HIGH, HIGH}};
        for (int[] p : places) {
            check.due("PLACE " + p[0] + " " + p[1] + " " + p[2], x.copy(0, p[0], 2, p[1], p[2]), PLACE);
        }
        check.due("to the end", x.copy(0, 2, 2, 0, 2), 2);
    }

    private static void dropping() {
        MadeTraffic x = new MadeTraffic();
        check.due("BAD", x.drop(-1), BAD);
        check.due("BAD", x.drop(8), BAD);
        check.due("NULL", x.drop(0), NULL);
        x.sheet(0, 0, 17);
        check.due("drop", x.drop(0), 17);
        check.due("missing", x.drop(0), NULL);
        check.due("missing", x.set(0, 0, 0), NULL);
        check.due("missing", x.asks(0, 0, 1), NULL);
        check.due("missing", x.count(0), 0);
        check.due("again", x.sheet(0, 1, 3), 3);
        check.due("there", x.count(0), 1);
    }

    private static void statusOfCalls() {
        MadeTraffic x = new MadeTraffic();
        x.drop(0);
        check.due("NULL", x.status(), 1);
        x.drop(9);
        check.due("BAD leaves it", x.status(), 1);
        x.sheet(0, 0, -1);
        check.due("SIZE", x.status(), 4);
        x.sheet(0, 0, 3);
        check.due("none", x.status(), 0);
        x.set(0, 3, 0);
        check.due("PLACE", x.status(), 2);
        x.asks(0, 0, 1);
        check.due("a wrong item is BAD and leaves it", x.status(), 2);
        x.count(0);
        check.due("a call without a sheet leaves it", x.status(), 2);
        x.set(0, 2, 1);
        check.due("none", x.status(), 0);
        x.sheet(1, 1, 1);
        x.copy(0, 0, 1, 0, 1);
        check.due("STORE", x.status(), 5);
        x.asks(0, 0, 1);
        check.due("none", x.status(), 0);
        x.asks(0, 1, 1);
        check.due("PLACE", x.status(), 2);
        x.drop(0);
        check.due("none", x.status(), 0);
        x.as(0, 1);
        check.due("KIND", x.status(), 3);
        x.as(0, 6);
        check.due("BAD leaves it", x.status(), 3);
        x.as(0, 0);
        check.due("none", x.status(), 0);
    }
}
