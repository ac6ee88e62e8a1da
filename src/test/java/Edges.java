import java.io.IOException;
import java.nio.file.Files;
import java.nio.file.Path;
import java.util.BitSet;
import java.util.LinkedHashMap;
import java.util.Map;

/**
 * Checks that stand under a sentence of the document. A sentence must stand in the part of the document
 * that is told with it, and must have checks; of the terms and the promises no word may be left unsaid.
 */
final class Edges {
    static final int NONE = MadeTraffic.NONE, BAD = MadeTraffic.BAD, STATE = MadeTraffic.STATE, FULL = MadeTraffic.FULL;
    static final int NULL = -1000011, PLACE = -1000012, KIND = -1000013, SIZE = -1000014, STORE = -1000015;
    static final int LOW = Integer.MIN_VALUE, HIGH = Integer.MAX_VALUE;
    private static final Path DOCUMENT = Path.of("../shared/DOC.md");

    interface Call {
        int on(MadeTraffic x);
    }

    private final Map<String, String> parts = partsOf(DOCUMENT);
    private final Map<String, BitSet> said = new LinkedHashMap<>();
    private String sentence = "";
    private int sentences = 0;
    private int checksOfSentence = 1;
    private int checks = 0;
    private int wrong = 0;

    /** By "Terms", "Terms 1" .. "Terms 4", "Promise 1" .. "Promise 30", and other headings: their words. */
    private static Map<String, String> partsOf(Path document) {
        Map<String, String> parts = new LinkedHashMap<>();
        String part = "";
        try {
            for (String line : Files.readAllLines(document)) {
                if (line.startsWith("## ")) {
                    part = line.substring(3).replaceAll(":.*", "");
                } else if (line.startsWith("======== ")) {
                    part = "Terms " + line.charAt(9);
                }
                parts.merge(part, wordsOf(line) + " ", String::concat);
            }
        } catch (IOException e) {
            System.out.println("the document cannot be read: " + e);
        }
        return parts;
    }

    /** A line without what only marks it: headings, fences, a call's face, where the interface says what. */
    private static String wordsOf(String line) {
        boolean isMark = line.startsWith("## ") || line.startsWith("```") || line.startsWith("Ahead of the calls ");
        return isMark ? "" : line.replaceAll("^=+ \\d |^`[^`]*`: ", "").trim();
    }

    /** The checks up to the next sentence are of this one. */
    void says(String part, String words) {
        endSentence();
        sentence = part + ", \"" + words + "\"";
        sentences++;
        checksOfSentence = 0;
        int from = parts.getOrDefault(part, "").indexOf(words);
        if (from < 0) {
            tellWrong("is not in the document");
        } else {
            said.computeIfAbsent(part, p -> new BitSet()).set(from, from + words.length());
        }
    }

    private void endSentence() {
        if (checksOfSentence == 0) {
            tellWrong("has no check");
        }
    }

    private void tellWrong(String what) {
        wrong++;
        System.out.println(sentence + ": " + what);
    }

    void due(String call, long got, long want) {
        checks++;
        checksOfSentence++;
        if (got != want) {
            tellWrong(call + " answered " + got + ", due is " + want);
        }
    }

    void isTrue(String what, boolean holds) {
        due(what, holds ? 1 : 0, 1);
    }

    void end() {
        endSentence();
        for (int promise = 1; promise <= 30; promise++) {
            allIsSaid("Promise " + promise);
        }
        allIsSaid("Terms");
        for (int group = 1; group <= 4; group++) {
            allIsSaid("Terms " + group);
        }
        System.out.println(sentences + " sentences, " + checks + " checks, " + wrong + " wrong");
        if (wrong != 0) {
            System.exit(1);
        }
    }

    private void allIsSaid(String part) {
        String words = parts.getOrDefault(part, "");
        BitSet there = said.getOrDefault(part, new BitSet());
        sentence = part;
        if (words.isBlank()) {
            tellWrong("is not in the document");
        }
        StringBuilder unsaid = new StringBuilder(words);
        there.stream().forEach(i -> unsaid.setCharAt(i, '\n'));
        for (String left : unsaid.toString().split("\n+")) {
            if (left.matches(".*[A-Za-z0-9].*")) {
                tellWrong("has no check of \"" + left.trim() + "\"");
            }
        }
    }

    /** A new object with the told asks (tick, name, greatness) in its true row. */
    static MadeTraffic withAsks(int... items) {
        MadeTraffic x = new MadeTraffic();
        Check.asks(x, items);
        return x;
    }

    /** A new object whose true row asks these names, all at tick 0 with greatness 1. */
    static MadeTraffic withNames(int... names) {
        MadeTraffic x = new MadeTraffic();
        for (int from = 0; from < names.length; from += 20) {
            int[] items = new int[3 * Math.min(20, names.length - from)];
            for (int i = 0; i < items.length / 3; i++) {
                items[3 * i + 1] = names[from + i];
                items[3 * i + 2] = 1;
            }
            Check.asks(x, items);
        }
        return x;
    }

    static MadeTraffic withModel(String text) {
        MadeTraffic x = new MadeTraffic();
        Check.model(x, text);
        return x;
    }

    /** The first n lots of a seed. */
    static int[] lots(long seed, int n) {
        java.math.BigInteger round = java.math.BigInteger.ONE.shiftLeft(64);
        java.math.BigInteger x = java.math.BigInteger.valueOf(seed);
        int[] lots = new int[n];
        for (int i = 0; i < n; i++) {
            x = x.multiply(new java.math.BigInteger("6364136223846793005"))
                    .add(new java.math.BigInteger("1442695040888963407")).mod(round);
            lots[i] = x.shiftRight(33).intValueExact();
        }
        return lots;
    }

    /** The least seed from 0 on whose lot number i is, modulo w, the told one. */
    static long seedFor(int i, int w, int rest) {
        long seed = 0;
        while (lots(seed, i + 1)[i] % w != rest) {
            seed++;
        }
        return seed;
    }
}
