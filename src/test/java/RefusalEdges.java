import java.util.ArrayList;
import java.util.List;

/** What holds for all calls: how refusals come about, and that they change nothing. */
final class RefusalEdges {
    private RefusalEdges() { }

    static void run(Edges e) {
        howLong(e);
        fromNothingOn(e);
        firstThatFits(e);
        firstInTime(e);
        findings(e);
        changesNothing(e);
    }

    private static void howLong(Edges e) {
        e.says("What it is", "An object is used for at most 512 calls after it has been made");
        MadeTraffic x = new MadeTraffic();
        x.sheet(0, 2, 60);
        for (int call = 2; call <= 511; call++) {
            e.due("call " + call, x.set(0, call % 60, call), call);
        }
        e.due("call 512", x.drop(0), 60);
        String text = "gap 1 2; gap 2 2; new 1; depth 9 1; great 1 1; walk 0 1 1; walk 1 0 1;";
        x = Edges.withModel(text);
        int calls = (text.length() + 7) / 8 + 1;
        while (calls < 511) {
            x.make(calls, 40);
            calls++;
        }
        e.due("call 512", x.make(7, 40), 160);
    }

    private static void fromNothingOn(Edges e) {
        e.says("Terms", "Numbers go from 0 on.");
        MadeTraffic x = new MadeTraffic();
        e.due("sheet 0", x.sheet(0, 0, 3), 3);
        e.due("item 0", x.set(0, 0, 9), 9);
        x.set(0, 2, 4);
        x.asks(0, 0, 1);
        e.due("ask 0 of row 0", x.told(0, 0, 0), 9);
        x.ask(0, 1);
        e.due("number 0 of the trace", x.trace(0), 20);
        e.due("part 0", x.kind(0), 5);
    }

    /** An object on which each call that can be refused as STATE or FULL is. */
    private static MadeTraffic fullAndPoor() {
        int[] names = new int[40];
        MadeTraffic x = Edges.withNames(names);
        for (int i = 0; i < 50; i++) {
            x.feed(0x2020202020202020L, 8);
        }
        for (int i = 0; i < 10; i++) {
            x.learn(0, 0, 0);
        }
        return x;
    }

    private static void firstThatFits(Edges e) {
        e.says("Terms", "Refusals are answers, the first of these that fits: BAD (a number is not as told; there is no such thing), STATE (as told), FULL (as told), then FINDINGS");
        MadeTraffic x = new MadeTraffic();
        e.due("worth, BAD ahead of STATE", x.worth(4, 0), Edges.BAD);
        e.due("worth, STATE", x.worth(3, 4), Edges.STATE);
        e.due("best, BAD ahead of STATE", x.best(2), Edges.BAD);
        e.due("best, STATE", x.best(1), Edges.STATE);
        x = fullAndPoor();
        e.due("learn, BAD ahead of STATE", x.learn(10, 0, 0), Edges.BAD);
        e.due("learn, BAD ahead of STATE", x.learn(0, 10, 0), Edges.BAD);
        e.due("learn, STATE", x.learn(9, 9, 0), Edges.STATE);
        e.due("feed, BAD ahead of FULL", x.feed(0, 0), Edges.BAD);
        e.due("feed, BAD ahead of FULL", x.feed(0, 9), Edges.BAD);
        e.due("feed, FULL", x.feed(0, 1), Edges.FULL);
        e.due("asks, BAD ahead of FULL", x.asks(8, 0, 1), Edges.BAD);
        e.due("asks, BAD ahead of FULL", x.asks(0, 0, 21), Edges.BAD);
        e.due("asks, FULL ahead of NULL", x.asks(0, 0, 1), Edges.FULL);
        e.due("asks, FULL ahead of PLACE", x.asks(7, 60, 1), Edges.FULL);
        e.due("sheet, BAD ahead of SIZE", x.sheet(8, 0, -1), Edges.BAD);
        e.due("sheet, BAD ahead of SIZE", x.sheet(0, 3, -1), Edges.BAD);
        e.due("set, BAD ahead of all", x.set(8, -1, 0), Edges.BAD);
        e.due("copy, BAD ahead of NULL", x.copy(0, 0, 8, 0, 0), Edges.BAD);
        e.due("copy, BAD ahead of NULL", x.copy(-1, 0, 0, 0, 0), Edges.BAD);
        e.due("as, BAD ahead of KIND", x.as(0, 6), Edges.BAD);
    }

    private static void firstInTime(Edges e) {
        e.says("Terms", "then FINDINGS, of several the first in time");
        MadeTraffic x = new MadeTraffic();
        x.sheet(0, 0, 4);
        x.sheet(1, 1, 4);
        e.due("set, NULL ahead of PLACE", x.set(2, 60, 0), Edges.NULL);
        e.due("copy, NULL ahead of PLACE", x.copy(0, 9, 2, 9, 9), Edges.NULL);
        e.due("copy, NULL ahead of PLACE", x.copy(2, 9, 0, 9, 9), Edges.NULL);
        e.due("copy, STORE ahead of PLACE", x.copy(0, 9, 1, 9, 9), Edges.STORE);
        e.due("asks, NULL ahead of PLACE", x.asks(2, -1, 1), Edges.NULL);
    }

    private static void findings(Edges e) {
        MadeTraffic x = new MadeTraffic();
        e.says("Terms", "-1000010 less 1 NULL (a SHEET that is missing)");
        e.due("drop", x.drop(7), -1000011);
        e.due("status", x.status(), 1);
        x.sheet(7, 0, 1);
        e.due("not missing", x.drop(7), 1);
        e.says("Terms", "2 PLACE (no such place of a SHEET)");
        x.sheet(0, 0, 1);
        e.due("set", x.set(0, 1, 0), -1000012);
        e.due("status", x.status(), 2);
        e.says("Terms", "3 KIND (a PART that is not that)");
        e.due("as", x.as(0, 1), -1000013);
        e.due("status", x.status(), 3);
        e.says("Terms", "4 SIZE (fewer than none)");
        e.due("sheet of -1", x.sheet(0, 0, -1), -1000014);
        e.due("status", x.status(), 4);
        e.due("sheet of none", x.sheet(0, 0, 0), 0);
        e.says("Terms", "5 STORE (SHEETS of two LANES)");
        x.sheet(1, 1, 0);
        e.due("copy", x.copy(0, 0, 1, 0, 0), -1000015);
        e.due("status", x.status(), 5);
    }

    /** An object of which all that can be told is told, with a finding as the latest. */
    private static MadeTraffic told() {
        MadeTraffic x = Edges.withAsks(1, 0, 2, 3, 1, 9, 3, 0, 1, 8, 2, 4, 9, 0, 1);
        x.sheet(0, 1, 6);
        x.sheet(1, 0, 2);
        x.set(0, 0, 9);
        x.set(0, 1, 6);
        x.set(0, 2, 7);
        x.set(1, 1, -5);
        Check.model(x, "gap 1 3; gap 5 2; depth 0 4; new 3; great 1 5; great 6 2; walk 0 1 1; walk 1 0 2;");
        Check.model(x, "gap 99 1");
        x.leave(3, 1);
        x.learn(9, 0, 4);
        x.make(17, 6);
        x.house(3, 2, 7);
        x.feed('n', 1);
        x.ask(1, 0);
        x.as(2, 1);
        return x;
    }

    /** An object that refuses as STATE and FULL, too. */
    private static MadeTraffic toldAndFull() {
        MadeTraffic x = told();
        int[] items = new int[45];
        for (int i = 0; i < 15; i++) {
            items[3 * i] = 9;
            items[3 * i + 2] = 1;
        }
        Check.asks(x, items);
        x.asks(7, 0, 15);
        x.asks(7, 0, 5);
        for (int i = 0; i < 49; i++) {
            x.feed(0x2020202020202020L, 8);
        }
        x.feed(0x20202020202020L, 7);
        for (int i = 0; i < 9; i++) {
            x.learn(0, 0, 0);
        }
        x.learn(1, 0, 5);
        x.stretch(1);
        x.as(2, 1);
        return x;
    }

    /** All that can be seen of an object but for status(); it is used up by this. */
    private static List<Integer> seen(MadeTraffic x) {
        List<Integer> seen = new ArrayList<>();
        for (int what = 0; what < 6; what++) {
            seen.add(x.count(what));
            seen.add(x.number(0, what, 0));
            seen.add(x.number(1, what, 2));
            seen.add(x.trace(what));
        }
        seen.add(x.fault());
        for (int i = 0; i < 7; i++) {
            for (int what = 0; what < 3; what++) {
                seen.add(x.told(0, i, what));
                seen.add(x.told(1, i, what));
            }
        }
        for (int part = 0; part < 4; part++) {
            for (int i = 0; i < 11; i++) {
                seen.add(x.weight(part, i));
            }
            seen.add(x.worth(part, 0));
            seen.add(x.leave(part, 0));
        }
        seen.add(x.asks(0, 0, 1));
        seen.add(x.told(0, 5, 1));
        seen.add(x.copy(1, 0, 1, 1, 1));
        for (int sheet = 0; sheet < 8; sheet++) {
            seen.add(x.drop(sheet));
        }
        seen.add(x.model());
        return seen;
    }

    private static void same(Edges e, String call, MadeTraffic x, MadeTraffic y, Edges.Call refused, int answer) {
        int was = x.status();
        e.due(call, refused.on(x), answer);
        boolean isFinding = answer <= -1000011 && answer >= -1000015;
        e.due("status behind " + call, x.status(), isFinding ? -1000010 - answer : was);
        e.isTrue("all is as it was ahead of " + call, seen(x).equals(seen(y)));
    }

    private static void refused(Edges e, String call, Edges.Call refused, int answer) {
        same(e, call, told(), told(), refused, answer);
    }

    private static void changesNothing(Edges e) {
        e.says("Terms", "What is refused, or found, changes nothing but status().");
        refused(e, "sheet", x -> x.sheet(0, 3, 1), Edges.BAD);
        refused(e, "sheet", x -> x.sheet(0, 2, 61), Edges.BAD);
        refused(e, "sheet", x -> x.sheet(0, 2, -1), Edges.SIZE);
        refused(e, "set", x -> x.set(8, 0, 1), Edges.BAD);
        refused(e, "set", x -> x.set(2, 0, 1), Edges.NULL);
        refused(e, "set", x -> x.set(0, 6, 1), Edges.PLACE);
        refused(e, "copy", x -> x.copy(0, 0, 8, 0, 1), Edges.BAD);
        refused(e, "copy", x -> x.copy(2, 0, 0, 0, 1), Edges.NULL);
        refused(e, "copy", x -> x.copy(1, 0, 0, 0, 1), Edges.STORE);
        refused(e, "copy", x -> x.copy(0, 2, 0, 0, 5), Edges.PLACE);
        refused(e, "drop", x -> x.drop(8), Edges.BAD);
        refused(e, "drop", x -> x.drop(2), Edges.NULL);
        refused(e, "asks", x -> x.asks(0, 0, 0), Edges.BAD);
        refused(e, "asks", x -> x.asks(2, 0, 1), Edges.NULL);
        refused(e, "asks", x -> x.asks(0, 4, 1), Edges.PLACE);
        refused(e, "asks, the second is none", x -> x.asks(0, 0, 2), Edges.BAD);
        refused(e, "feed", x -> x.feed('e', 9), Edges.BAD);
        refused(e, "leave", x -> x.leave(3, 2), Edges.BAD);
        refused(e, "leave", x -> x.leave(0, -1), Edges.BAD);
        refused(e, "make", x -> x.make(3, 41), Edges.BAD);
        refused(e, "make", x -> x.make(3, -1), Edges.BAD);
        refused(e, "stretch", x -> x.stretch(0), Edges.BAD);
        refused(e, "stretch", x -> x.stretch(5), Edges.BAD);
        refused(e, "house", x -> x.house(1, 1, 100), Edges.BAD);
        refused(e, "house", x -> x.house(1, 10, 1), Edges.BAD);
        refused(e, "shape", x -> x.shape(0, 10), Edges.BAD);
        refused(e, "shape", x -> x.shape(4, 1), Edges.BAD);
        refused(e, "learn", x -> x.learn(10, 0, 1), Edges.BAD);
        refused(e, "learn", x -> x.learn(0, 10, 1), Edges.BAD);
        refused(e, "as", x -> x.as(4, 0), Edges.BAD);
        refused(e, "as", x -> x.as(1, 4), Edges.KIND);
        refused(e, "ask", x -> x.ask(0, 2), Edges.BAD);
        refused(e, "ask", x -> x.ask(4, 0), Edges.BAD);
        same(e, "asks, full", toldAndFull(), toldAndFull(), x -> x.asks(0, 0, 1), Edges.FULL);
        same(e, "feed, full", toldAndFull(), toldAndFull(), x -> x.feed('e', 1), Edges.FULL);
        same(e, "learn, poor", toldAndFull(), toldAndFull(), x -> x.learn(8, 0, 1), Edges.STATE);
        same(e, "worth, by no seed", toldAndFull(), toldAndFull(), x -> x.worth(0, 0), Edges.STATE);
    }
}
