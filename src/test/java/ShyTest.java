/** Promises 23 and 24. */
public final class ShyTest {
    private static final Check check = new Check();
    private static final int BAD = MadeTraffic.BAD, STATE = MadeTraffic.STATE;

    public static void main(String[] args) {
        learnsWrongly();
        learnsExactly();
        learnsWithNoise();
        thePurse();
        guesses();
        check.end();
    }

    private static MadeTraffic told() {
        MadeTraffic x = new MadeTraffic();
        // NEW 0 0 NEW 1 0 NEW 1 2: NEW 3, depth 0 3, depth 1 2, depth 2 1.
        int[] names = {5, 5, 5, 6, 5, 5, 7, 5, 6};
        for (int i = 0; i < names.length; i++) {
            Check.asks(x, i, names[i], 1);
        }
        return x;
    }

    private static final int[] CAME = {3, 2, 1, 0, 0, 0, 0, 0, 0, 0, 3};

    private static void learnsWrongly() {
        MadeTraffic x = told();
        int[][] bad = {{-1, 0}, {10, 0}, {0, -1}, {0, 10}};
        for (int[] b : bad) {
            check.due("learn " + b[0] + " " + b[1], x.learn(b[0], b[1], 1), BAD);
        }
        check.due("nothing was taken", x.count(4), 100);
    }

    private static void learnsExactly() {
        for (int k = 0; k <= 9; k++) {
            MadeTraffic x = told();
            Check.model(x, "depth 7 9; gap 3 3;");
            check.due("learn", x.learn(0, k, 12345), 90);
            for (int d = 0; d < 11; d++) {
                check.due("count or nothing, k " + k, x.weight(1, d), CAME[d] >= k ? CAME[d] : 0);
            }
            check.due("others stay", x.weight(0, 3), 3);
        }
    }

    private static void learnsWithNoise() {
        for (int seed = -3; seed <= 3; seed++) {
            for (int r = 1; r <= 9; r++) {
                for (int k = 0; k <= 4; k++) {
                    MadeTraffic x = told();
                    check.due("purse", x.learn(r, k, seed), 90 + r);
                    long lot = seed;
                    for (int d = 0; d < 11; d++) {
                        int due = 0;
                        if (CAME[d] >= k) {
                            lot = lot * 6364136223846793005L + 1442695040888963407L;
                            due = (int) Math.max(0, CAME[d] + (lot >>> 33) % (2 * r + 1) - r);
                        }
                        check.due("weight " + d + " by " + r + " " + k, x.weight(1, d), due);
                    }
                }
            }
        }
    }

    private static void thePurse() {
        MadeTraffic x = told();
        for (int i = 1; i <= 9; i++) {
            check.due("ten less", x.learn(0, 0, 1), 100 - 10 * i);
        }
        check.due("nine less", x.learn(1, 0, 1), 1);
        x.shape(0, 5);
        check.due("less is there", x.learn(8, 0, 1), STATE);
        check.due("BAD ahead of STATE", x.learn(0, 10, 1), BAD);
        check.due("nothing is learned", x.weight(1, 0), 9);
        check.due("nothing is taken", x.count(4), 1);
        check.due("the last", x.learn(9, 0, 1), 0);
        check.due("none is there", x.learn(9, 0, 1), STATE);
        check.due("none", x.count(4), 0);
    }

    /** Counts all noises: of what can be seen the reader says what is likelier. */
    private static void guessByCounting(MadeTraffic x, int r, int n) {
        int noises = 2 * r + 1;
        int wide = noises + 1;
        int all = 1;
        int seen = 1;
        for (int i = 0; i < n; i++) {
            all *= noises;
            seen *= wide;
        }
        int right = 0;
        for (int s = 0; s < seen; s++) {
            boolean without = true;
            boolean within = true;
            for (int i = 0, rest = s; i < n; i++, rest /= wide) {
                without &= rest % wide < noises;
                within &= rest % wide > 0;
            }
            right += without || within ? 1 : 0;
        }
        int above = right;
        int below = 2 * all;
        for (int d = 2; d <= above; d++) {
            while (above % d == 0 && below % d == 0) {
                above /= d;
                below /= d;
            }
        }
        check.due("above " + r + " " + n, x.guess(r, n, 0), above);
        check.due("below " + r + " " + n, x.guess(r, n, 1), below);
    }

    private static void guesses() {
        MadeTraffic x = new MadeTraffic();
        int[][] bad = {{-1, 1, 0}, {5, 1, 0}, {0, 0, 0}, {0, 4, 0}, {0, 1, -1}, {0, 1, 2}};
        for (int[] b : bad) {
            check.due("guess " + b[0] + " " + b[1] + " " + b[2], x.guess(b[0], b[1], b[2]), BAD);
        }
        for (int r = 0; r <= 4; r++) {
            for (int n = 1; n <= 3; n++) {
                guessByCounting(x, r, n);
            }
        }
        check.due("2 of 3", x.guess(1, 1, 0), 2);
        check.due("2 of 3", x.guess(1, 1, 1), 3);
    }
}
