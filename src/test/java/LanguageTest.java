import java.io.IOException;
import java.nio.file.Files;
import java.nio.file.Path;
import java.util.Arrays;
import java.util.List;
import java.util.Map;
import java.util.TreeMap;
import java.util.regex.Matcher;
import java.util.regex.Pattern;

/** Rules of LANGUAGE.md that can be seen from the words of the source; it is run in the project's folder. */
public final class LanguageTest {
    private static final Check check = new Check();
    private static final Path SOURCE = Path.of("src/main/java/MadeTraffic.java");
    private static final String[] RULED_OUT = {"\\bthrows?\\b", "\\btry\\b", "\\bcatch\\b", "\\bfinally\\b",
        "\\bsynchronized\\b", "\\bassert\\b", "->", "::", "\\bpackage\\b", "\\bvolatile\\b", "\\bnative\\b",
        "\\bObject\\b", "\\bRandom\\b", "\\bThread\\b", "\\bnanoTime\\b", "\\bcurrentTimeMillis\\b", "Exact\\b",
        "\\bhashCode\\b", "\\btoString\\b", "\\bString\\.", "\\bformat\\b", "\\bSystem\\.(?!arraycopy\\b)",
        "\\bArrays\\.(?!(copyOf|copyOfRange|fill)\\b)", "@", "\\bprotected\\b", "\\bvar\\b", "\\bHash", "\\bMap\\b"};

    public static void main(String[] args) throws IOException {
        String text = Files.readString(SOURCE);
        for (int i = 0; i < text.length(); i++) {
            char c = text.charAt(i);
            if (c != '\n' && (c < 32 || c > 126)) {
                check.isTrue("plain signs alone, byte " + i, false);
            }
        }
        String code = text.replaceAll("//[^\n]*", "").replaceAll("\"[^\"\n]*\"", "\"\"");
        for (String word : RULED_OUT) {
            Matcher m = Pattern.compile(word).matcher(code);
            check.isTrue("without " + word, !m.find());
        }
        Matcher imports = Pattern.compile("import ([^;]*);").matcher(code);
        while (imports.find()) {
            check.isTrue("import " + imports.group(1), List.of("java.util.Arrays", "java.util.ArrayList",
                    "java.util.List", "java.util.Iterator").contains(imports.group(1)));
        }
        check.isTrue("texts are not joined by +", !Pattern.compile("\"\"\\s*\\+|\\+\\s*\"\"").matcher(code).find());
        methodsAreShort(code);
        check.end();
    }

    /** By names: each method's words, and so which methods it calls; a name of two methods stands for both. */
    private static void methodsAreShort(String code) {
        Map<String, String> bodies = new TreeMap<>();
        String[] lines = code.split("\n");
        for (int i = 0; i < lines.length; i++) {
            Matcher head = Pattern.compile("\\s+(?!if|for|while|switch|else)[\\w\\[\\] ]*?(\\w+)\\([^;]*\\) \\{").matcher(lines[i]);
            if (!head.matches()) {
                continue;
            }
            String close = lines[i].replaceAll("\\S.*", "") + "}";
            int end = i;
            while (end < lines.length && !lines[end].equals(close)) {
                end++;
            }
            check.isTrue("short: " + lines[i].trim(), end - i <= 60);
            String body = String.join("\n", Arrays.copyOfRange(lines, Math.min(i + 1, end), end));
            bodies.merge(head.group(1), body, String::concat);
        }
        check.isTrue("methods were found: " + bodies.size(), bodies.size() > 50);
        for (String name : bodies.keySet()) {
            check.isTrue("calls go at most eight deep from " + name, depth(name, bodies, 0) <= 8);
        }
    }

    private static int depth(String name, Map<String, String> bodies, int ahead) {
        int deepest = 0;
        Matcher calls = Pattern.compile("\\b(\\w+)\\(").matcher(bodies.get(name));
        while (ahead < 12 && calls.find()) {
            if (bodies.containsKey(calls.group(1))) {
                deepest = Math.max(deepest, depth(calls.group(1), bodies, ahead + 1));
            }
        }
        return 1 + deepest;
    }
}
