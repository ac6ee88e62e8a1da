/** Promises 25 to 30. */
public final class AskedTest {
    private static final Check check = new Check();
    private static final int NONE = MadeTraffic.NONE, BAD = MadeTraffic.BAD, KIND = -1000013;

    public static void main(String[] args) {
        wrongInputs();
        emptyParts();
        toldParts();
        leftOutParts();
        traces();
        counts();
        check.end();
    }

    private static void wrongInputs() {
        MadeTraffic x = new MadeTraffic();
        int[][] bad = {{-1, 0}, {4, 0}, {Integer.MAX_VALUE, 0}};
        for (int[] b : bad) {
            check.due("kind", x.kind(b[0]), BAD);
            check.due("as", x.as(b[0], b[1]), BAD);
            check.due("ask", x.ask(b[0], b[1]), BAD);
        }
        check.due("as -1", x.as(0, -1), BAD);
        check.due("as 6", x.as(0, 6), BAD);
        check.due("ask -1", x.ask(0, -1), BAD);
        check.due("ask 2", x.ask(0, 2), BAD);
        check.due("count -1", x.count(-1), BAD);
        check.due("count 6", x.count(6), BAD);
    }

    /** What as() answers for the kinds 0 to 5: own ones by their bits. */
    private static void kinds(MadeTraffic x, int part, int kind, int bits) {
        check.due("kind of " + part, x.kind(part), kind);
        for (int k = 0; k < 6; k++) {
            boolean is = (bits >> k & 1) != 0;
            check.due("as " + part + " " + k, x.as(part, k), is ? part : KIND);
            check.due("status", x.status(), is ? 0 : 3);
        }
    }

    private static void asked(MadeTraffic x, int part, int what, int answer, int... trace) {
        check.due("ask " + part + " " + what, x.ask(part, what), answer);
        for (int i = 0; i < 18; i++) {
            check.due("trace " + i, x.trace(i), i < trace.length ? trace[i] : NONE);
        }
    }

    private static void emptyParts() {
        MadeTraffic x = new MadeTraffic();
        Check.asks(x, 1, 1, 1);
        for (int part = 0; part < 4; part++) {
            kinds(x, part, 5, 1 | 32);
            asked(x, part, 0, 0, 14, 10);
            asked(x, part, 1, part, 20);
        }
    }

    private static MadeTraffic told() {
        MadeTraffic x = new MadeTraffic();
        Check.asks(x, 1, 1, 1, 2, 2, 2, 3, 3, 3);
        Check.model(x, "gap 1 2; gap 9 5; depth 0 4; new 7; great 1 3; great 9 8; walk 2 2 40; walk 0 0 2;");
        return x;
    }

    private static void toldParts() {
        MadeTraffic x = told();
        kinds(x, 0, 1, 1 | 2);
        kinds(x, 1, 2, 1 | 4);
        kinds(x, 2, 3, 1 | 8);
        kinds(x, 3, 4, 1 | 8 | 16);
        asked(x, 0, 0, 7, 10);
        asked(x, 0, 1, 0, 20);
        asked(x, 1, 0, 11 + 4, 11, 10, 21, 20);
        asked(x, 1, 1, 1 + 3, 21, 20);
        asked(x, 2, 0, 22, 12, 10);
        asked(x, 2, 1, 102, 22, 20);
        asked(x, 3, 0, 84 - 206, 13, 12, 10, 23, 22, 20);
        asked(x, 3, 1, 206, 23, 22, 20);
    }

    private static void leftOutParts() {
        MadeTraffic x = told();
        int[] size = {7, 11, 11, 42};
        for (int part = 0; part < 4; part++) {
            x.leave(part, 1);
            check.due("empty ones", x.count(3), part + 1);
            kinds(x, part, 5, 1 | 32);
            asked(x, part, 0, -size[part], 14, 10);
            asked(x, part, 1, part, 20);
        }
        x.leave(3, 0);
        check.due("a walk again", x.kind(3), 4);
        check.due("three", x.count(3), 3);
        Check.model(x, "walk 2 2 0; walk 0 0 0;");
        check.due("all are 0", x.kind(3), 5);
        check.due("four", x.count(3), 4);
    }

    private static void traces() {
        MadeTraffic x = told();
        check.due("empty", x.trace(0), NONE);
        x.ask(3, 0);
        check.due("below", x.trace(-1), NONE);
        check.due("lowest", x.trace(Integer.MIN_VALUE), NONE);
        check.due("highest", x.trace(Integer.MAX_VALUE), NONE);
        check.due("16", x.trace(16), NONE);
        check.due("refused", x.ask(3, 2), BAD);
        check.due("refused changes nothing", x.trace(5), 20);
        x.kind(2);
        check.due("other calls leave it", x.trace(0), 13);
        x.ask(0, 1);
        check.due("empty ahead of an ask", x.trace(1), NONE);
    }

    private static void counts() {
        MadeTraffic x = told();
        x.sheet(0, 0, 0);
        x.make(1, 12);
        x.learn(4, 0, 1);
        Check.feed(x, "gap 1");
        int[] due = {2, 3, 12, 0, 94, 5};
        for (int what = 0; what < 6; what++) {
            check.due("count " + what, x.count(what), due[what]);
        }
        x.drop(0);
        x.drop(7);
        check.due("no sheets", x.count(0), 0);
    }
}
