import java.lang.reflect.Constructor;
import java.lang.reflect.Field;
import java.lang.reflect.Method;
import java.lang.reflect.Modifier;
import java.util.Arrays;
import java.util.Set;
import java.util.TreeSet;

/** The class shows the document's face and nothing else (LANGUAGE.md, rule 1). */
public final class FaceTest {
    private static final String[] FACE = {
        "boolean row(int, int)", "boolean sound(int, int, int)", "boolean cost(int, int, int)",
        "boolean near(int, int, int)", "boolean levels(int, int)", "int mark(int, int)", "int letter(int, int)",
        "int code(int, int)", "int paper(int, int, int, int)", "int oppose(int, int, int)", "int undo()",
        "int paperOf(int, int)", "int markOf(int, int)", "int soundOf(int, int)", "int like(int, int, int)",
        "int right(int, int, int, int, int)", "int state(int, int, int)", "int clash(int, int, int, int)",
        "int first(int, int, int)", "int may(int, int, int, int, int)", "int watch(int)", "int about(int)"};
    private static final Due DUE = new Due();

    private static String shape(Method m) {
        StringBuilder b = new StringBuilder(m.getReturnType() + " " + m.getName() + "(");
        for (Class<?> c : m.getParameterTypes()) {
            b.append(b.charAt(b.length() - 1) == '(' ? "" : ", ").append(c);
        }
        return b.append(')').toString();
    }

    private static void methods() {
        Set<String> due = new TreeSet<>(Arrays.asList(FACE));
        Set<String> names = new TreeSet<>();
        for (Method m : MarksRegister.class.getDeclaredMethods()) {
            if (Modifier.isPublic(m.getModifiers())) {
                DUE.yes("in the face: " + shape(m), due.remove(shape(m)));
                DUE.no("static: " + shape(m), Modifier.isStatic(m.getModifiers()));
                names.add(m.getName());
            } else if (!m.isSynthetic()) {
                DUE.yes("private: " + shape(m), Modifier.isPrivate(m.getModifiers()));
            }
        }
        DUE.is("missing " + due, due.size(), 0);
        noOtherBears(MarksRegister.class, names);
        for (Class<?> c : MarksRegister.class.getDeclaredClasses()) {
            DUE.yes("static " + c, Modifier.isStatic(c.getModifiers()));
            DUE.no("public " + c, Modifier.isPublic(c.getModifiers()));
            noOtherBears(c, names);
        }
    }

    private static void noOtherBears(Class<?> c, Set<String> names) {
        for (Method m : c.getDeclaredMethods()) {
            if (c != MarksRegister.class || !Modifier.isPublic(m.getModifiers())) {
                DUE.no("bears a public name: " + c + " " + shape(m), names.contains(m.getName()));
            }
        }
    }

    private static void fieldsAndConstructors() {
        for (Field f : MarksRegister.class.getDeclaredFields()) {
            boolean isNone = f.getName().equals("NONE");
            DUE.is("public " + f, Modifier.isPublic(f.getModifiers()) ? 1 : 0, isNone ? 1 : 0);
            DUE.yes("private, or NONE: " + f, isNone || Modifier.isPrivate(f.getModifiers()));
            DUE.yes("final where static: " + f, !Modifier.isStatic(f.getModifiers()) || Modifier.isFinal(f.getModifiers()));
        }
        Constructor<?>[] all = MarksRegister.class.getDeclaredConstructors();
        DUE.is("constructors", all.length, 1);
        DUE.yes("a public constructor", Modifier.isPublic(all[0].getModifiers()));
        DUE.is("without parameters", all[0].getParameterCount(), 0);
        int shown = MarksRegister.class.getModifiers();
        DUE.yes("a public final class", Modifier.isPublic(shown) && Modifier.isFinal(shown));
    }

    public static void main(String[] args) {
        methods();
        fieldsAndConstructors();
        DUE.end();
    }
}
