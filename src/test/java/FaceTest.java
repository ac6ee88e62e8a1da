import java.io.IOException;
import java.lang.reflect.Constructor;
import java.lang.reflect.Field;
import java.lang.reflect.Method;
import java.lang.reflect.Modifier;
import java.nio.file.Files;
import java.nio.file.Path;
import java.util.ArrayList;
import java.util.List;
import java.util.TreeSet;
import java.util.regex.Matcher;
import java.util.regex.Pattern;

/** The public face as the document writes it, and the rules 1, 2, 5 and 11 of LANGUAGE.md that can be seen from the class. */
public final class FaceTest {
    private static final Check check = new Check();
    private static final Path DOCUMENT = Path.of("../shared/DOC.md");
    private static final Path SOURCE = Path.of("src/main/java/MadeTraffic.java");
    private static final Pattern FACE_CALL = Pattern.compile("    public int (\\w+)\\(([^)]*)\\);");
    private static final Pattern SECTION = Pattern.compile("Ahead of the calls (.*) the interface says: (---- .*)\\.");

    public static void main(String[] args) throws IOException {
        List<String> document = Files.readAllLines(DOCUMENT);
        constants();
        TreeSet<String> calls = callsOf(document);
        check.due("calls in the document", calls.size(), 29);
        face(calls);
        inside(calls);
        written(document, Files.readString(SOURCE));
        check.end();
    }

    /** The document's calls as name(type,type). */
    private static TreeSet<String> callsOf(List<String> document) {
        TreeSet<String> calls = new TreeSet<>();
        for (String line : document) {
            Matcher call = FACE_CALL.matcher(line);
            if (call.matches()) {
                calls.add(call.group(1) + "(" + call.group(2).replaceAll("(\\w+) \\w+", "$1").replace(" ", "") + ")");
            }
        }
        return calls;
    }

    /** The source has the document's lines of the face, and its sections with their calls, in its order. */
    private static void written(List<String> document, String source) {
        int sections = 0;
        for (String line : document) {
            if (FACE_CALL.matcher(line).matches()) {
                check.isTrue("written so: " + line.trim(), source.contains("\n" + line.replace(";", " {\n")));
            }
            if (line.startsWith("    public static final ")) {
                check.isTrue("written so: " + line.trim(), source.contains("\n" + line + "\n"));
            }
            Matcher section = SECTION.matcher(line);
            if (section.matches()) {
                sections++;
                check.isTrue(line, callsBehind("\n    // " + section.group(2) + "\n", source).equals(section.group(1)));
            }
        }
        check.due("sections", sections, 7);
    }

    private static String callsBehind(String mark, String source) {
        int from = source.indexOf(mark);
        if (from < 0) {
            return "no such mark";
        }
        int end = source.indexOf("\n    // ----", from + mark.length());
        Matcher head = Pattern.compile("\n    public int (\\w+)\\(").matcher(source.substring(from, end < 0 ? source.length() : end));
        List<String> calls = new ArrayList<>();
        while (head.find()) {
            calls.add("`" + head.group(1) + "`");
        }
        return String.join(", ", calls);
    }

    private static void constants() {
        check.due("NONE", MadeTraffic.NONE, -1000000);
        check.due("BAD", MadeTraffic.BAD, -1000001);
        check.due("STATE", MadeTraffic.STATE, -1000002);
        check.due("FULL", MadeTraffic.FULL, -1000003);
    }

    private static String signature(Method m) {
        StringBuilder text = new StringBuilder(m.getName()).append('(');
        for (Class<?> type : m.getParameterTypes()) {
            text.append(text.charAt(text.length() - 1) == '(' ? "" : ",").append(type.getName());
        }
        return text.append(')').toString();
    }

    private static void face(TreeSet<String> calls) {
        Class<?> face = MadeTraffic.class;
        check.isTrue("public final", Modifier.isPublic(face.getModifiers()) && Modifier.isFinal(face.getModifiers()));
        TreeSet<String> due = new TreeSet<>(calls);
        for (Method m : face.getDeclaredMethods()) {
            if (Modifier.isPrivate(m.getModifiers())) {
                continue;
            }
            check.isTrue("in the face: " + m, Modifier.isPublic(m.getModifiers()) && !Modifier.isStatic(m.getModifiers()));
            check.isTrue("answers int: " + m, m.getReturnType() == int.class);
            check.isTrue("told in the document: " + m, due.remove(signature(m)));
        }
        check.isTrue("nothing is missing: " + due, due.isEmpty());
        Constructor<?>[] made = face.getDeclaredConstructors();
        check.isTrue("one constructor", made.length == 1 && Modifier.isPublic(made[0].getModifiers()));
        TreeSet<String> shown = new TreeSet<>();
        for (Field f : face.getDeclaredFields()) {
            if (!Modifier.isPrivate(f.getModifiers())) {
                shown.add(f.getName());
            }
        }
        check.isTrue("constants alone: " + shown, shown.equals(new TreeSet<>(List.of("NONE", "BAD", "STATE", "FULL"))));
    }

    private static void inside(TreeSet<String> calls) {
        TreeSet<String> names = new TreeSet<>();
        for (String signature : calls) {
            names.add(signature.substring(0, signature.indexOf('(')));
        }
        Class<?>[] classes = MadeTraffic.class.getDeclaredClasses();
        check.isTrue("at most twelve classes", classes.length < 12);
        ofClass(MadeTraffic.class, names);
        for (Class<?> c : classes) {
            check.isTrue("static, not public: " + c, Modifier.isStatic(c.getModifiers())
                    && !Modifier.isPublic(c.getModifiers()) && !Modifier.isProtected(c.getModifiers()));
            check.isTrue("no class further inside: " + c, c.getDeclaredClasses().length == 0);
            ofClass(c, names);
        }
    }

    private static void ofClass(Class<?> c, TreeSet<String> publicNames) {
        int fields = 0;
        for (Field f : c.getDeclaredFields()) {
            boolean isStatic = Modifier.isStatic(f.getModifiers());
            check.isTrue("static is final: " + f, !isStatic || Modifier.isFinal(f.getModifiers()));
            fields += isStatic ? 0 : 1;
        }
        check.isTrue("some twenty fields: " + c, fields <= 20);
        for (Method m : c.getDeclaredMethods()) {
            check.isTrue("seven parameters: " + m, m.getParameterCount() <= 7);
            boolean isFace = c == MadeTraffic.class && Modifier.isPublic(m.getModifiers());
            check.isTrue("a name of its own: " + m, isFace || !publicNames.contains(m.getName()));
        }
    }
}
