/** Counts what a test found wrong, and prints it. */
final class Check {
    private int checked = 0;
    private int wrong = 0;

    void due(String what, long got, long want) {
        checked++;
        if (got != want) {
            wrong++;
            System.out.println(what + " answered " + got + ", due is " + want);
        }
    }

    void isTrue(String what, boolean holds) {
        checked++;
        if (!holds) {
            wrong++;
            System.out.println(what + " does not hold");
        }
    }

    void end() {
        System.out.println(checked + " checks, " + wrong + " wrong");
        if (wrong != 0) {
            System.exit(1);
        }
    }

    /** Lays the told asks (tick, name, greatness) on sheet 7, in ints, and has them asked. */
    static int asks(MadeTraffic x, int... items) {
        x.sheet(7, 2, items.length);
        for (int i = 0; i < items.length; i++) {
            x.set(7, i, items[i]);
        }
        return x.asks(7, 0, items.length / 3);
    }

    /** Feeds a text byte by byte, eight at a time. */
    static void feed(MadeTraffic x, String text) {
        for (int i = 0; i < text.length(); i += 8) {
            long w = 0;
            int n = Math.min(8, text.length() - i);
            for (int j = 0; j < n; j++) {
                w = w << 8 | text.charAt(i + j);
            }
            x.feed(w, n);
        }
    }

    static int model(MadeTraffic x, String text) {
        feed(x, text);
        return x.model();
    }
}
