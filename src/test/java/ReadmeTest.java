import java.io.IOException;
import java.lang.reflect.Method;
import java.nio.file.Files;
import java.nio.file.Path;
import java.util.ArrayList;
import java.util.List;
import java.util.TreeSet;
import java.util.regex.Matcher;
import java.util.regex.Pattern;
import java.util.stream.Stream;

/** What README.md says is so; it is run in the project's folder. */
public final class ReadmeTest {
    private static final Check check = new Check();
    private static final Path README = Path.of("README.md");
    private static final Path TESTS = Path.of("src/test/java");
    private static final Pattern CALL = Pattern.compile("x\\.(\\w+)\\((.*)\\); +// (-?\\d+)(: .*)?");
    private static final Pattern ROW = Pattern.compile("\\| `(\\w+)\\((.*)\\)` \\| .* \\|");

    public static void main(String[] args) throws ReflectiveOperationException, IOException {
        List<String> lines = Files.readAllLines(README);
        tour(lines);
        refusals(lines);
        calls(lines);
        tests(String.join("\n", lines));
        check.end();
    }

    private static Method call(String name) {
        for (Method m : MadeTraffic.class.getMethods()) {
            if (m.getName().equals(name)) {
                return m;
            }
        }
        throw new IllegalArgumentException("no such call: " + name);
    }

    private static Object[] arguments(Method m, String words) {
        String[] each = words.isEmpty() ? new String[0] : words.split(", ");
        Object[] arguments = new Object[each.length];
        for (int i = 0; i < each.length; i++) {
            long value = Long.decode(each[i].replaceAll("L$", ""));
            arguments[i] = m.getParameterTypes()[i] == int.class ? (Object) (int) value : (Object) value;
        }
        return arguments;
    }

    /** Each line that begins with x. is a call with its answer; what is fed is the text that is quoted. */
    private static void tour(List<String> lines) throws ReflectiveOperationException {
        MadeTraffic x = new MadeTraffic();
        int calls = 0;
        for (String line : lines) {
            if (!line.startsWith("x.")) {
                continue;
            }
            Matcher m = CALL.matcher(line);
            if (!m.matches()) {
                check.isTrue("a call with its answer: " + line, false);
                continue;
            }
            Method called = call(m.group(1));
            Object[] arguments = arguments(called, m.group(2));
            check.due(line, (int) called.invoke(x, arguments), Integer.parseInt(m.group(3)));
            if (m.group(1).equals("feed")) {
                check.isTrue("the bytes of " + line, m.group(4).equals(": \"" + text((long) arguments[0], (int) arguments[1]) + "\""));
            }
            calls++;
        }
        check.isTrue("a tour of " + calls + " calls", calls > 30);
    }

    private static String text(long w, int n) {
        StringBuilder text = new StringBuilder();
        for (int i = n - 1; i >= 0; i--) {
            text.append((char) (w >>> 8 * i & 255));
        }
        return text.toString();
    }

    private static void refusals(List<String> lines) {
        String[] names = {"NONE", "BAD", "STATE", "FULL"};
        int[] answers = {MadeTraffic.NONE, MadeTraffic.BAD, MadeTraffic.STATE, MadeTraffic.FULL};
        for (int i = 0; i < names.length; i++) {
            String begin = "| " + answers[i] + " | `" + names[i] + "`: ";
            check.isTrue(begin, lines.stream().anyMatch(line -> line.startsWith(begin)));
        }
    }

    /** The table has each call once, with as many parameters as it has, in the order of the source. */
    private static void calls(List<String> lines) throws IOException {
        List<String> rows = new ArrayList<>();
        for (String line : lines) {
            Matcher m = ROW.matcher(line);
            if (m.matches()) {
                rows.add(m.group(1) + "(" + m.group(2) + ")");
            }
        }
        List<String> due = new ArrayList<>();
        Matcher head = Pattern.compile("\n    public int (\\w+\\([^)]*\\)) \\{")
                .matcher(Files.readString(Path.of("src/main/java/MadeTraffic.java")));
        while (head.find()) {
            due.add(head.group(1).replaceAll("(int|long) ", ""));
        }
        check.isTrue("the calls " + due + ", not " + rows, rows.equals(due) && due.size() == 29);
    }

    private static void tests(String readme) throws IOException {
        TreeSet<String> files = new TreeSet<>();
        try (Stream<Path> there = Files.list(TESTS)) {
            there.forEach(path -> files.add(path.getFileName().toString().replace(".java", "")));
        }
        for (String file : files) {
            check.isTrue("told of: " + file, Pattern.compile("\\b" + file + "\\b").matcher(readme).find());
        }
        Matcher named = Pattern.compile("\\b[A-Z]\\w+(Test|Edges)\\b").matcher(readme);
        while (named.find()) {
            check.isTrue("is there: " + named.group(), files.contains(named.group()));
        }
        check.isTrue("can be run: .ci/run", Files.isExecutable(Path.of(".ci/run")));
    }
}
