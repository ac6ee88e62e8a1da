/** Sentences of texts and weights: promises 9 to 13. */
final class TextEdges {
    private TextEdges() { }

    static void run(Edges e) {
        tape(e);
        letters(e);
        figures(e);
        blanks(e);
        tellings(e);
        weightLimits(e);
        placeLimits(e);
        whatHolds(e);
        firstFault(e);
        faultsOfOneToken(e);
        ends(e);
        partsLeftOut(e);
        feeding(e);
        reading(e);
        faultNumbers(e);
        weights(e);
        leaving(e);
    }

    private static void fault(Edges e, String text, int place, int number) {
        MadeTraffic x = new MadeTraffic();
        e.due("model of '" + text + "'", Check.model(x, text), -1000100 - place);
        e.due("fault of '" + text + "'", x.fault(), number);
    }

    private static void well(Edges e, String text, int many) {
        MadeTraffic x = new MadeTraffic();
        e.due("model of '" + text + "'", Check.model(x, text), many);
        e.due("fault of '" + text + "'", x.fault(), 0);
    }

    private static void tape(Edges e) {
        e.says("Terms 1", "TEXTS: THE TAPE has at most 400 bytes");
        MadeTraffic x = new MadeTraffic();
        Check.feed(x, " ".repeat(393) + "new 99");
        e.due("399", x.count(5), 399);
        e.due("two are too many", x.feed(0x3b20, 2), Edges.FULL);
        e.due("the last", x.feed(';', 1), 400);
        e.due("one is too many", x.feed(' ', 1), Edges.FULL);
        e.due("all 400 are read", x.model(), 1);
        e.due("to the last", x.weight(1, 10), 99);
        Check.feed(x, " ".repeat(399) + "x");
        e.due("a fault at the last", x.model(), -1000499);
        Check.feed(x, "new 1" + " ".repeat(395));
        e.due("a fault at the end", x.model(), -1000500);
    }

    private static void letters(Edges e) {
        e.says("Terms 1", "TOKENS: NAMES (letters a to z)");
        fault(e, "new 1 az;", 6, 1);
        fault(e, "aznew 1;", 0, 1);
        fault(e, "newa 1;", 0, 1);
        fault(e, "newz 1;", 0, 1);
        fault(e, "New 1;", 0, 1);
        fault(e, "neW 1;", 0, 1);
        // Signs next to the letters end a name: the fault is theirs, not the name's.
        fault(e, "new`1;", 3, 1);
        fault(e, "new{1;", 3, 1);
        fault(e, "newA1;", 3, 1);
        fault(e, "newZ1;", 3, 1);
        fault(e, "new" + (char) ('a' + 128) + "1;", 3, 1);
    }

    private static void figures(Edges e) {
        e.says("Terms 1", "NUMBERS (figures, 4 at most)");
        well(e, "new 0009;", 1);
        fault(e, "new 00009;", 4, 1);
        fault(e, "new 9999;", 4, 2);
        fault(e, "new 10000;", 4, 1);
        fault(e, "gap 0009 00001;", 9, 1);
        fault(e, "new 4294967297;", 4, 1);
        fault(e, "new 18446744073709551617;", 4, 1);
        fault(e, "new 1/;", 5, 1);
        fault(e, "new 1:;", 5, 1);
        fault(e, "new /;", 4, 1);
        fault(e, "new :;", 4, 1);
        fault(e, "new -1;", 4, 1);
        fault(e, "new +1;", 4, 1);
        MadeTraffic x = Edges.withModel("gap 0 10; gap 9 90; gap 0005 0055;");
        e.due("10", x.weight(0, 0), 10);
        e.due("90", x.weight(0, 9), 90);
        e.due("55", x.weight(0, 5), 55);
    }

    private static void blanks(Edges e) {
        e.says("Terms 1", "SIGNS ; bytes 32 and 10 between.");
        well(e, " \n new \n 1\n \n;\n ", 1);
        well(e, "new1;gap1 2;", 2);
        well(e, "", 0);
        well(e, " ", 0);
        well(e, "\n", 0);
        int[] none = {0, 1, 9, 11, 13, 31, 33, 58, 60, 127, 128, 128 + 10, 128 + 32, 128 + ';', 255};
        for (int b : none) {
            fault(e, (char) b + "new 1;", 0, 1);
            fault(e, "new" + (char) b + "1;", 3, 1);
            fault(e, "new 1" + (char) b + ";", 5, 1);
            fault(e, "new 1;" + (char) b, 6, 1);
        }
        fault(e, "gap 1" + (char) 13 + "2;", 5, 1);
        fault(e, "gap 12;", 4, 2);
    }

    private static void tellings(Edges e) {
        e.says("Terms 1", "text: { 'gap' NUMBER NUMBER ';' | 'depth' NUMBER NUMBER ';' | 'new' NUMBER ';' | 'great' NUMBER NUMBER ';' | 'walk' NUMBER NUMBER NUMBER ';' }");
        String[] words = {"gap", "depth", "new", "great", "walk"};
        int[] numbers = {2, 2, 1, 2, 3};
        for (int w = 0; w < words.length; w++) {
            well(e, words[w] + " 1".repeat(numbers[w]) + ";", 1);
            well(e, (words[w] + " 1".repeat(numbers[w]) + ";").repeat(2), 1);
            for (int n = 0; n < numbers[w]; n++) {
                String fewer = words[w] + " 1".repeat(n);
                fault(e, fewer + ";", fewer.length(), 1);
                fault(e, fewer, fewer.length(), 1);
                fault(e, fewer + " gap", fewer.length() + 1, 1);
            }
            String all = words[w] + " 1".repeat(numbers[w]);
            fault(e, all, all.length(), 1);
            fault(e, all + " 1;", all.length() + 1, 1);
            fault(e, all + " new 1;", all.length() + 1, 1);
            fault(e, all + ";;", all.length() + 1, 1);
            fault(e, all + "; 1;", all.length() + 2, 1);
            for (int i = 0; i < words[w].length(); i++) {
                String other = words[w].substring(0, i) + "q" + words[w].substring(i + 1);
                fault(e, other + " 1".repeat(numbers[w]) + ";", 0, 1);
            }
            fault(e, words[w].substring(1) + " 1".repeat(numbers[w]) + ";", 0, 1);
            fault(e, words[w].substring(0, words[w].length() - 1) + " 1".repeat(numbers[w]) + ";", 0, 1);
            fault(e, words[w] + words[w] + " 1".repeat(numbers[w]) + ";", 0, 1);
        }
        fault(e, ";", 0, 1);
        fault(e, "1", 0, 1);
        well(e, "new 1;walk 1 1 1;great 1 1;depth 1 1;gap 1 1;", 5);
    }

    private static void weightLimits(Edges e) {
        e.says("Terms 1", "WEIGHTS (0 to 99; the last NUMBER)");
        String[] ahead = {"gap 1 ", "depth 1 ", "new ", "great 1 ", "walk 1 1 "};
        for (String text : ahead) {
            well(e, text + "0;", 0);
            well(e, text + "1;", 1);
            well(e, text + "99;", 1);
            fault(e, text + "100;", text.length(), 2);
            fault(e, text + "0100;", text.length(), 2);
            fault(e, text + "9999;", text.length(), 2);
        }
        MadeTraffic x = Edges.withModel("gap 2 3; walk 1 2 4;");
        e.due("not the first of two", x.weight(0, 2), 3);
        e.due("not the first of two", x.weight(0, 3), 0);
        e.due("behind state 1 that of state 2", x.weight(3, 5), 4);
        e.due("behind state 2 that of state 1", x.weight(3, 7), 0);
    }

    private static void limit(Edges e, String ahead, String behind, int least, int most) {
        well(e, ahead + least + behind, 1);
        well(e, ahead + most + behind, 1);
        fault(e, ahead + (most + 1) + behind, ahead.length(), 2);
        fault(e, ahead + "9999" + behind, ahead.length(), 2);
    }

    private static void placeLimits(Edges e) {
        e.says("Terms 1", "of a GAP 0 to 9");
        limit(e, "gap ", " 1;", 0, 9);
        e.says("Terms 1", "a DEPTH 0 to 9");
        limit(e, "depth ", " 1;", 0, 9);
        e.says("Terms 1", "of NEW, of a GREATNESS 1 to 9");
        MadeTraffic x = Edges.withModel("new 5; great 1 6;");
        e.due("of NEW", x.weight(1, 10), 5);
        e.due("of greatness 1", x.weight(2, 1), 6);
        limit(e, "great ", " 1;", 1, 9);
        fault(e, "great 0 1;", 6, 2);
        fault(e, "great 0000 1;", 6, 2);
        e.says("Terms 1", "of a STATE 0 to 2 behind a STATE");
        limit(e, "walk ", " 0 1;", 0, 2);
        limit(e, "walk 0 ", " 1;", 0, 2);
    }

    private static void whatHolds(Edges e) {
        e.says("Terms 1", "All are 0 at first");
        MadeTraffic x = new MadeTraffic();
        e.due("of no text", x.model(), 0);
        e.due("of one telling", Check.model(x, "gap 3 7;"), 1);
        e.due("the one told", x.weight(0, 3), 7);
        e.due("one not told", x.weight(0, 2), 0);
        e.says("Terms 1", "what is told last holds, when all is read.");
        e.due("told twice", Check.model(x, "gap 3 8; new 1; gap 3 9;"), 2);
        e.due("the last", x.weight(0, 3), 9);
        e.due("told in an earlier text", Check.model(x, "new 2;"), 2);
        e.due("still told", x.weight(0, 3), 9);
        e.due("told last as 0", Check.model(x, "gap 3 5; gap 3 0;"), 1);
        e.due("0", x.weight(0, 3), 0);
        e.due("not all is read", Check.model(x, "gap 3 5; new 7; gap 3"), -1000121);
        e.due("as it was", x.weight(0, 3), 0);
        e.due("as it was", x.weight(1, 10), 2);
    }

    private static void firstFault(Edges e) {
        e.says("Terms 1", "FAULTS, the first TOKEN that has one (its first byte)");
        fault(e, "gap 10 100 x", 4, 2);
        fault(e, "gap 1 100 x", 6, 2);
        fault(e, "gap 1 1 x 100", 8, 1);
        fault(e, "gap 10", 4, 2);
        fault(e, "gap 1 1; gap 2 2; gap 3 abc", 24, 1);
        fault(e, "new 1;\n \n  newer 1;", 11, 1);
        fault(e, "new 1; \n\n   0100;", 12, 1);
        fault(e, "new   0100;", 6, 2);
        fault(e, "walk 3 3 100;", 5, 2);
        fault(e, "walk 2 3 100;", 7, 2);
        fault(e, "walk 2 2 100;", 9, 2);
        fault(e, "new 100 #", 4, 2);
        fault(e, "new # 100", 4, 1);
    }

    private static void faultsOfOneToken(Edges e) {
        e.says("Terms 1", "of one TOKEN the least: 1 it cannot stand there, or is none");
        fault(e, "new 1 100;", 6, 1);
        fault(e, "9999;", 0, 1);
        fault(e, "gap 1 1; 100;", 9, 1);
        fault(e, "new 12345;", 4, 1);
        fault(e, "new 1 12345;", 6, 1);
        fault(e, "12345", 0, 1);
        fault(e, "new ;", 4, 1);
        fault(e, "new new 1;", 4, 1);
        fault(e, "?", 0, 1);
        e.says("Terms 1", "2 a NUMBER that is not as told.");
        fault(e, "new 100;", 4, 2);
        fault(e, "great 0 1;", 6, 2);
        fault(e, "gap 10 1;", 4, 2);
        fault(e, "depth 10 1;", 6, 2);
        fault(e, "walk 0 3 1;", 7, 2);
    }

    private static void ends(Edges e) {
        e.says("Terms 1", "(the end: how many bytes there are)");
        fault(e, "gap", 3, 1);
        fault(e, "gap ", 4, 1);
        fault(e, "gap 1", 5, 1);
        fault(e, "gap 1 1", 7, 1);
        fault(e, "gap 1 1 \n \n", 11, 1);
        fault(e, "\n\nnew", 5, 1);
        fault(e, "new 1; new 0099 \n", 17, 1);
        well(e, "gap 1 1;", 1);
        // What an earlier text left behind the end is not there.
        String[] cut = {"new", "gap 1", "gap 1 1", "gap 1 1 ", "new 1; depth"};
        String[] earlier = {"2", "w", ";", " ", "#"};
        for (String text : cut) {
            for (String sign : earlier) {
                MadeTraffic x = new MadeTraffic();
                Check.model(x, sign.repeat(20));
                e.due("'" + text + "' behind " + sign, Check.model(x, text), -1000100 - text.length());
            }
        }
    }

    private static void partsLeftOut(Edges e) {
        e.says("Terms 1", "PARTS: 0 gaps, 1 names (depths, NEW), 2 greatness, 3 walk");
        MadeTraffic each = Edges.withModel("gap 4 1; depth 4 2; new 3; great 4 4; walk 1 1 5;");
        int[][] weights = {{0, 4, 1}, {1, 4, 2}, {1, 10, 3}, {2, 4, 4}, {3, 4, 5}};
        for (int[] w : weights) {
            e.due("part " + w[0] + ", " + w[1], each.weight(w[0], w[1]), w[2]);
        }
        e.says("Terms 1", "each may be LEFT OUT (as if all its WEIGHTS were 0)");
        String text = "gap 4 1; new 1; great 5 1; walk 0 2 1;";
        MadeTraffic none = new MadeTraffic();
        none.make(1, 3);
        MadeTraffic x = Edges.withModel(text);
        for (int part = 0; part < 4; part++) {
            x.leave(part, 1);
        }
        e.due("all: no lots", x.make(1, 3), 0);
        for (int i = 0; i < 3; i++) {
            for (int what = 0; what < 5; what++) {
                e.due("as of no weights", x.told(1, i, what), none.told(1, i, what));
            }
        }
        int[][] due = {{3, 2, 7}, {12, 0, 7}, {12, 2, 3}, {12, 2, 5}};
        // All four take 10 lots: three each, but the walk, which stays in state 2, one.
        int[] lots = {7, 7, 7, 9};
        for (int part = 0; part < 4; part++) {
            x = Edges.withModel(text);
            x.leave(part, 1);
            e.due("lots without part " + part, x.make(1, 3), lots[part]);
            for (int what = 0; what < 3; what++) {
                e.due("of the last, without part " + part, x.told(1, 2, what), due[part][what]);
            }
        }
    }

    private static void feeding(Edges e) {
        e.says("Promise 9", "The lowest n bytes of w (1 to 8), the highest of them first, come behind the tape: how many it has.");
        MadeTraffic x = new MadeTraffic();
        e.due("1", x.feed(0x787878787878786eL, 1), 1);
        e.due("2", x.feed(0x7878787878786577L, 2), 3);
        e.due("3", x.feed(0x7878787878203720L, 3), 6);
        e.due("1", x.feed(0xffffffffffffff3bL, 1), 7);
        e.due("8", x.feed(0x6e65772037373b20L, 8), 15);
        e.due("read", x.model(), 1);
        e.due("77", x.weight(1, 10), 77);
        for (int n = 1; n <= 8; n++) {
            MadeTraffic y = new MadeTraffic();
            e.due("n " + n, y.feed(0x2020202020202020L, n), n);
            e.due("n " + n, y.count(5), n);
        }
        MadeTraffic y = new MadeTraffic();
        y.feed(-1L, 8);
        e.due("bytes 255", y.model(), -1000100);
        e.says("Promise 9", "BAD: n; FULL: none comes.");
        int[] bad = {0, 9, -1, Edges.LOW, Edges.HIGH};
        for (int n : bad) {
            e.due("n " + n, x.feed(0x20, n), Edges.BAD);
        }
        Check.feed(x, " ".repeat(395));
        e.due("six behind 395", x.feed(0x202020202020L, 6), Edges.FULL);
        e.due("none came", x.count(5), 395);
        e.due("eight behind 395", x.feed(0, 8), Edges.FULL);
        e.due("five behind 395", x.feed(0x2020202020L, 5), 400);
        e.due("one behind 400", x.feed(0x20, 1), Edges.FULL);
        e.due("400", x.count(5), 400);
        e.due("none of them came", x.model(), 1);
    }

    private static void reading(Edges e) {
        e.says("Promise 10", "The tape, empty then, is read: how many WEIGHTS are not 0.");
        MadeTraffic x = new MadeTraffic();
        e.due("nothing", x.model(), 0);
        e.due("two of three", Check.model(x, "gap 0 1; gap 1 0; great 9 99;"), 2);
        e.due("the tape is empty", x.count(5), 0);
        e.due("nothing more", x.model(), 2);
        e.due("a fault", Check.model(x, "gap"), -1000103);
        e.due("the tape is empty then, too", x.count(5), 0);
        e.due("nothing of it is read again", Check.model(x, "new 1;"), 3);
        StringBuilder all = new StringBuilder();
        for (int i = 0; i < 10; i++) {
            all.append("gap ").append(i).append(" 1;depth ").append(i).append(" 1;");
        }
        Check.model(x, all.toString());
        all.setLength(0);
        for (int i = 0; i < 9; i++) {
            all.append("great ").append(i + 1).append(" 1;walk ").append(i / 3).append(' ').append(i % 3).append(" 1;");
        }
        e.due("all there are", Check.model(x, all.toString()), 39);
        e.says("Promise 10", "-1000100 less the place of a FAULT: nothing holds.");
        e.due("at 0", Check.model(x, "x"), -1000100);
        e.due("at 6, behind a telling", Check.model(x, "new 9;x"), -1000106);
        e.due("it does not hold", x.weight(1, 10), 1);
        e.due("all are as they were", x.model(), 39);
        e.due("at 13, behind one that tells 0", Check.model(x, "gap 0 0; new 100;"), -1000113);
        e.due("it does not hold", x.weight(0, 0), 1);
        e.due("nor behind a text that is well", Check.model(x, "great 9 7;"), 39);
        e.due("it does not hold", x.weight(0, 0), 1);
        x.shape(3, 2);
        e.due("what shape() gave stays", Check.model(x, "great 9 8;"), 39);
        e.due("NEW of the shape", x.weight(1, 10), 2);
        x.learn(0, 0, 1);
        e.due("what learn() gave stays", Check.model(x, "great 9 8;"), 28);
        e.due("NEW learned", x.weight(1, 10), 0);
    }

    private static void faultNumbers(Edges e) {
        e.says("Promise 11", "The number of the latest FAULT; 0 before one.");
        MadeTraffic x = new MadeTraffic();
        e.due("before one", x.fault(), 0);
        Check.model(x, "new 1;");
        e.due("before one", x.fault(), 0);
        Check.feed(x, "new 100");
        e.due("not read yet", x.fault(), 0);
        x.model();
        e.due("2", x.fault(), 2);
        Check.model(x, "new");
        e.due("1", x.fault(), 1);
        Check.model(x, "new 2;");
        e.due("the latest one stays", x.fault(), 1);
        Check.model(x, "gap 10 1;");
        e.due("2", x.fault(), 2);
    }

    private static void weights(Edges e) {
        MadeTraffic x = Edges.withModel("gap 0 1; gap 9 2; depth 0 3; depth 9 4; new 5; great 1 6; great 9 7; walk 0 0 8; walk 2 2 9;"
                + "walk 0 1 10; walk 1 0 11;");
        e.says("Promise 12", "A WEIGHT of a PART as told: of gaps 0 to 9, of names 0 to 10 (10: NEW), of greatness 1 to 9, of the walk 3 times the STATE and the one behind it (0 to 8).");
        int[][] due = {{0, 0, 1}, {0, 9, 2}, {1, 0, 3}, {1, 9, 4}, {1, 10, 5}, {2, 1, 6}, {2, 9, 7}, {3, 0, 8}, {3, 8, 9},
            {3, 1, 10}, {3, 3, 11}};
        for (int[] d : due) {
            e.due("weight " + d[0] + " " + d[1], x.weight(d[0], d[1]), d[2]);
        }
        for (int part = 0; part < 4; part++) {
            x.leave(part, 1);
        }
        for (int[] d : due) {
            e.due("as told, though left out " + d[0] + " " + d[1], x.weight(d[0], d[1]), d[2]);
        }
        e.says("Promise 12", "BAD.");
        int[][] bad = {{-1, 0}, {4, 0}, {Edges.LOW, 0}, {Edges.HIGH, 0}, {0, -1}, {0, 10}, {1, -1}, {1, 11}, {2, -1}, {2, 0},
            {2, 10}, {3, -1}, {3, 9}, {0, Edges.LOW}, {3, Edges.HIGH}};
        for (int[] b : bad) {
            e.due("weight " + b[0] + " " + b[1], x.weight(b[0], b[1]), Edges.BAD);
        }
    }

    private static void leaving(Edges e) {
        e.says("Promise 13", "A PART is LEFT OUT (1), or not (0): what it was.");
        MadeTraffic x = new MadeTraffic();
        for (int part = 0; part < 4; part++) {
            e.due("not at first " + part, x.leave(part, 0), 0);
            e.due("not " + part, x.leave(part, 1), 0);
            e.due("left out " + part, x.leave(part, 1), 1);
            e.due("left out " + part, x.leave(part, 0), 1);
            e.due("not " + part, x.leave(part, 1), 0);
        }
        Check.model(x, "gap 1 1;");
        e.due("a text does not change it", x.leave(0, 1), 1);
        e.says("Promise 13", "BAD.");
        int[][] bad = {{-1, 0}, {4, 0}, {Edges.HIGH, 1}, {0, -1}, {0, 2}, {3, Edges.LOW}};
        for (int[] b : bad) {
            e.due("leave " + b[0] + " " + b[1], x.leave(b[0], b[1]), Edges.BAD);
        }
    }
}
