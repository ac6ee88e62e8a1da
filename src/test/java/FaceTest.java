import java.lang.reflect.Constructor;
import java.lang.reflect.Field;
import java.lang.reflect.Method;
import java.lang.reflect.Modifier;
import java.util.TreeSet;

/** The public face of the document, and the rules 1, 2, 5 and 11 of LANGUAGE.md that can be seen from the class. */
public final class FaceTest {
    private static final Check check = new Check();
    private static final String[] FACE = {
        "sheet(int,int,int)", "set(int,int,int)", "copy(int,int,int,int,int)", "drop(int)", "asks(int,int,int)",
        "told(int,int,int)", "came(int)", "feed(long,int)", "model()", "fault()", "weight(int,int)",
        "leave(int,int)", "make(long,int)", "stretch(int)", "house(int,int,int)", "number(int,int,int)",
        "unlike(int)", "worth(int,int)", "cost(int)", "best(int)", "shape(int,int)", "learn(int,int,long)",
        "guess(int,int,int)", "kind(int)", "as(int,int)", "ask(int,int)", "trace(int)", "count(int)", "status()"};

    public static void main(String[] args) {
        constants();
        face();
        inside();
        check.end();
    }

    private static void constants() {
        check.due("NONE", MadeTraffic.NONE, -1000000);
        check.due("BAD", MadeTraffic.BAD, -1000001);
        check.due("STATE", MadeTraffic.STATE, -1000002);
        check.due("FULL", MadeTraffic.FULL, -1000003);
    }

    private static String signature(Method m) {
        StringBuilder text = new StringBuilder(m.getName()).append('(');
        for (Class<?> type : m.getParameterTypes()) {
            text.append(text.charAt(text.length() - 1) == '(' ? "" : ",").append(type.getName());
        }
        return text.append(')').toString();
    }

    private static void face() {
        Class<?> face = MadeTraffic.class;
        check.isTrue("public final", Modifier.isPublic(face.getModifiers()) && Modifier.isFinal(face.getModifiers()));
        TreeSet<String> due = new TreeSet<>(java.util.List.of(FACE));
        for (Method m : face.getDeclaredMethods()) {
            if (Modifier.isPrivate(m.getModifiers())) {
                continue;
            }
            check.isTrue("in the face: " + m, Modifier.isPublic(m.getModifiers()) && !Modifier.isStatic(m.getModifiers()));
            check.isTrue("answers int: " + m, m.getReturnType() == int.class);
            check.isTrue("told in the document: " + m, due.remove(signature(m)));
        }
        check.isTrue("nothing is missing: " + due, due.isEmpty());
        Constructor<?>[] made = face.getDeclaredConstructors();
        check.isTrue("one constructor", made.length == 1 && Modifier.isPublic(made[0].getModifiers()));
        TreeSet<String> shown = new TreeSet<>();
        for (Field f : face.getDeclaredFields()) {
            if (!Modifier.isPrivate(f.getModifiers())) {
                shown.add(f.getName());
            }
        }
        check.isTrue("constants alone: " + shown, shown.equals(new TreeSet<>(java.util.List.of("NONE", "BAD", "STATE", "FULL"))));
    }

    private static void inside() {
        TreeSet<String> names = new TreeSet<>();
        for (String signature : FACE) {
            names.add(signature.substring(0, signature.indexOf('(')));
        }
        Class<?>[] classes = MadeTraffic.class.getDeclaredClasses();
        check.isTrue("at most twelve classes", classes.length < 12);
        ofClass(MadeTraffic.class, names);
        for (Class<?> c : classes) {
            check.isTrue("static, not public: " + c, Modifier.isStatic(c.getModifiers())
                    && !Modifier.isPublic(c.getModifiers()) && !Modifier.isProtected(c.getModifiers()));
            check.isTrue("no class further inside: " + c, c.getDeclaredClasses().length == 0);
            ofClass(c, names);
        }
    }

    private static void ofClass(Class<?> c, TreeSet<String> publicNames) {
        int fields = 0;
        for (Field f : c.getDeclaredFields()) {
            boolean isStatic = Modifier.isStatic(f.getModifiers());
            check.isTrue("static is final: " + f, !isStatic || Modifier.isFinal(f.getModifiers()));
            fields += isStatic ? 0 : 1;
        }
        check.isTrue("some twenty fields: " + c, fields <= 20);
        for (Method m : c.getDeclaredMethods()) {
            check.isTrue("seven parameters: " + m, m.getParameterCount() <= 7);
            boolean isFace = c == MadeTraffic.class && Modifier.isPublic(m.getModifiers());
            check.isTrue("a name of its own: " + m, isFace || !publicNames.contains(m.getName()));
        }
    }
}
