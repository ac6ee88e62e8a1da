/** Sentences of what is learned and guessed: promises 23 and 24. */
final class ShyEdges {
    private ShyEdges() { }

    static void run(Edges e) {
        purse(e);
        noise(e);
        leastCounts(e);
        weights(e);
        learning(e);
        guesses(e);
        readers(e);
        guessing(e);
    }

    private static void purse(Edges e) {
        e.says("Terms 3", "THE PURSE: 100 at first.");
        e.due("at first", new MadeTraffic().count(4), 100);
        e.says("Terms 3", "it takes 10 less r from THE PURSE");
        for (int r = 0; r <= 9; r++) {
            MadeTraffic x = new MadeTraffic();
            e.due("by noise " + r, x.learn(r, 0, 1), 90 + r);
            e.due("by noise " + r, x.count(4), 90 + r);
        }
    }

    /** Three NEW, depth 0 three times, depth 1 twice, depth 2 once. */
    private static MadeTraffic told() {
        return Edges.withNames(5, 5, 5, 6, 5, 5, 7, 5, 6);
    }

    private static final int[] CAME = {3, 2, 1, 0, 0, 0, 0, 0, 0, 0, 3};

    private static void learnedAre(Edges e, int r, int k, long seed) {
        MadeTraffic x = told();
        x.learn(r, k, seed);
        int[] lots = Edges.lots(seed, 11);
        int taken = 0;
        for (int d = 0; d < 11; d++) {
            int due = 0;
            if (CAME[d] >= k) {
                due = Math.max(0, CAME[d] + lots[taken] % (2 * r + 1) - r);
                taken++;
            }
            e.due("slot " + d + " by " + r + ", " + k + ", " + seed, x.weight(1, d), due);
        }
    }

    private static void noise(Edges e) {
        e.says("Terms 3", "LEARNED are DEPTHS of the TRUE row with noise r (0 to 9)");
        MadeTraffic x = told();
        e.due("r -1", x.learn(-1, 0, 1), Edges.BAD);
        e.due("r 10", x.learn(10, 0, 1), Edges.BAD);
        for (int r = 0; r <= 9; r++) {
            learnedAre(e, r, 0, 3);
        }
        e.due("of no asks, no noise", new MadeTraffic().learn(0, 0, 1), 90);
        e.says("Terms 3", "how often it came and (a LOT modulo (2 r and 1)) less r, 0 at least");
        x = told();
        // Depth 2 came once: by the third lot it gets -1 or 0, cut, 1, 2 or 3.
        int[] due = {0, 0, 1, 2, 3};
        for (int rest = 0; rest < 5; rest++) {
            x = told();
            x.learn(2, 0, Edges.seedFor(2, 5, rest));
            e.due("1 and " + rest + " less 2", x.weight(1, 2), due[rest]);
        }
        x = told();
        x.learn(9, 0, Edges.seedFor(0, 19, 18));
        e.due("3 and 18 less 9", x.weight(1, 0), 12);
        x = told();
        x.learn(9, 0, Edges.seedFor(0, 19, 6));
        e.due("3 and 6 less 9", x.weight(1, 0), 0);
        x = told();
        x.learn(9, 0, Edges.seedFor(0, 19, 0));
        e.due("3 and 0 less 9", x.weight(1, 0), 0);
    }

    private static void leastCounts(Edges e) {
        e.says("Terms 3", "and a least count k (0 to 9)");
        MadeTraffic x = Edges.withNames(0, 0, 0, 0, 0, 0, 0, 0, 0, 0);
        e.due("k -1", x.learn(0, -1, 1), Edges.BAD);
        e.due("k 0", x.learn(0, 0, 1), 90);
        e.due("came 9 times", x.weight(1, 0), 9);
        e.due("k 9", x.learn(0, 9, 1), 80);
        e.due("came 9 times", x.weight(1, 0), 9);
        e.due("came once", x.weight(1, 10), 0);
        e.due("k 10", x.learn(0, 10, 1), Edges.BAD);
        e.says("Terms 3", "what came k times or more gets as its WEIGHT");
        for (int k = 0; k <= 9; k++) {
            MadeTraffic y = told();
            y.shape(0, 9);
            y.learn(0, k, 1);
            for (int d = 0; d < 11; d++) {
                e.due("came " + CAME[d] + " times, k " + k, y.weight(1, d), CAME[d] >= k ? CAME[d] : 0);
            }
        }
    }

    private static void weights(Edges e) {
        e.says("Terms 3", "by DEPTHS 0 to 9, then NEW");
        for (int seed = 0; seed < 6; seed++) {
            learnedAre(e, 9, 0, seed);
        }
        e.says("Terms 3", "what did not gets 0, without a LOT");
        for (int seed = 0; seed < 6; seed++) {
            for (int k = 1; k <= 4; k++) {
                learnedAre(e, 4, k, seed);
            }
        }
        e.says("Terms 3", "by a seed");
        long[] seeds = {0, -1, Long.MIN_VALUE, Long.MAX_VALUE};
        for (long seed : seeds) {
            learnedAre(e, 7, 0, seed);
        }
    }

    private static void learning(Edges e) {
        e.says("Promise 23", "LEARNED: what is in THE PURSE then.");
        MadeTraffic x = told();
        Check.model(x, "gap 1 3; great 1 4; walk 0 0 5;");
        for (int i = 1; i <= 10; i++) {
            e.due("time " + i, x.learn(0, 0, 1), 100 - 10 * i);
        }
        e.due("gaps stay", x.weight(0, 1), 3);
        e.due("greatness stays", x.weight(2, 1), 4);
        e.due("the walk stays", x.weight(3, 0), 5);
        e.says("Promise 23", "BAD: r, k");
        int[][] bad = {{-1, 0}, {10, 0}, {0, -1}, {0, 10}, {Edges.LOW, 0}, {Edges.HIGH, 0}, {0, Edges.LOW}, {0, Edges.HIGH}};
        for (int[] b : bad) {
            e.due("learn " + b[0] + " " + b[1], x.learn(b[0], b[1], 1), Edges.BAD);
            e.due("learn " + b[0] + " " + b[1], new MadeTraffic().learn(b[0], b[1], 1), Edges.BAD);
        }
        e.says("Promise 23", "STATE: THE PURSE has less.");
        e.due("0, and 1 is taken", x.learn(9, 0, 1), Edges.STATE);
        MadeTraffic y = told();
        for (int i = 0; i < 9; i++) {
            y.learn(0, 0, 1);
        }
        y.learn(9, 0, 1);
        y.shape(0, 5);
        e.due("9, and 10 are taken", y.learn(0, 0, 1), Edges.STATE);
        e.due("nothing is learned", y.weight(1, 3), 9);
        e.due("nothing is taken", y.count(4), 9);
        e.due("9, and 9 are taken", y.learn(1, 0, 1), 0);
        e.due("none is there", y.count(4), 0);
    }

    private static void guesses(Edges e) {
        e.says("Terms 3", "GUESS: a reader sees n counts (1 to 3)");
        MadeTraffic x = new MadeTraffic();
        e.due("n 0", x.guess(1, 0, 0), Edges.BAD);
        // Of 3 noises 2 can be of both: 4 of 6, 14 of 18, 46 of 54.
        int[][] byThree = {{2, 3}, {7, 9}, {23, 27}};
        for (int n = 1; n <= 3; n++) {
            e.due("above by " + n, x.guess(1, n, 0), byThree[n - 1][0]);
            e.due("below by " + n, x.guess(1, n, 1), byThree[n - 1][1]);
        }
        e.due("n 4", x.guess(1, 4, 0), Edges.BAD);
        e.says("Terms 3", "to each of which came a noise of its own from 0 to 2 r (r 0 to 4), all as likely");
        e.due("r -1", x.guess(-1, 1, 0), Edges.BAD);
        for (int n = 1; n <= 3; n++) {
            e.due("no noise: always right, above", x.guess(0, n, 0), 1);
            e.due("no noise: always right, below", x.guess(0, n, 1), 1);
        }
        int[][] byNine = {{5, 9}, {49, 81}, {473, 729}};
        for (int n = 1; n <= 3; n++) {
            e.due("r 4, above by " + n, x.guess(4, n, 0), byNine[n - 1][0]);
            e.due("r 4, below by " + n, x.guess(4, n, 1), byNine[n - 1][1]);
        }
        e.due("r 5", x.guess(5, 1, 0), Edges.BAD);
        e.says("Terms 3", "How often the best reader is right: a fraction in lowest terms.");
        int[][] due = {{2, 1, 3, 5}, {2, 2, 17, 25}, {2, 3, 93, 125}, {3, 1, 4, 7}, {3, 2, 31, 49}, {3, 3, 235, 343}};
        for (int[] d : due) {
            e.due("above of " + d[0] + " " + d[1], x.guess(d[0], d[1], 0), d[2]);
            e.due("below of " + d[0] + " " + d[1], x.guess(d[0], d[1], 1), d[3]);
        }
    }

    private static void readers(Edges e) {
        e.says("Terms 3", "and knows both what they are with someone in, and that each is one less without; both are as likely.");
        MadeTraffic x = new MadeTraffic();
        for (int r = 0; r <= 4; r++) {
            for (int n = 1; n <= 3; n++) {
                long all = 2 * Math.round(Math.pow(2 * r + 1, n));
                e.due("r " + r + ", n " + n, all * x.guess(r, n, 0), sightsGuessed(r, n) * x.guess(r, n, 1));
            }
        }
    }

    /** Of what can be seen (each count from one less on) the ways that the likelier of both has, added. */
    private static long sightsGuessed(int r, int n) {
        int side = 2 * r + 2;
        long right = 0;
        for (int sight = 0; sight < Math.pow(side, n); sight++) {
            boolean isWith = true;
            boolean isWithout = true;
            for (int i = 0, rest = sight; i < n; i++, rest /= side) {
                isWith &= rest % side > 0;
                isWithout &= rest % side < side - 1;
            }
            right += isWith || isWithout ? 1 : 0;
        }
        return right;
    }

    private static void guessing(Edges e) {
        e.says("Promise 24", "GUESS: above (what = 0), below (1).");
        MadeTraffic x = new MadeTraffic();
        e.due("above", x.guess(1, 1, 0), 2);
        e.due("below", x.guess(1, 1, 1), 3);
        e.due("nothing is taken from the purse", x.count(4), 100);
        e.says("Promise 24", "BAD.");
        int[][] bad = {{-1, 1, 0}, {5, 1, 0}, {0, 0, 0}, {0, 4, 0}, {0, 1, -1}, {0, 1, 2}, {Edges.HIGH, 1, 0},
            {0, Edges.HIGH, 0}, {0, Edges.LOW, 0}, {0, 1, Edges.LOW}};
        for (int[] b : bad) {
            e.due("guess " + b[0] + " " + b[1] + " " + b[2], x.guess(b[0], b[1], b[2]), Edges.BAD);
        }
    }
}
