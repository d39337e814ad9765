import java.io.IOException;
import java.lang.reflect.Constructor;
import java.lang.reflect.Executable;
import java.lang.reflect.Field;
import java.lang.reflect.Method;
import java.lang.reflect.Modifier;
import java.nio.file.Files;
import java.nio.file.Path;
import java.util.ArrayList;
import java.util.List;
import java.util.Set;
import java.util.regex.Matcher;
import java.util.regex.Pattern;

/**
 * The source keeps to those rules of LANGUAGE.md that can be read off it: 2 to 6, 11 and 13. What the
 * class has no need of (texts, lists, most of the library) is refused as well.
 */
public final class FormTest {
    private static final Path SOURCE = Path.of("src/main/java/MarksRegister.java");
    private static final Pattern COMMENTS = Pattern.compile("/\\*.*?\\*/|//[^\\n]*", Pattern.DOTALL);
    private static final Pattern FORBIDDEN = Pattern.compile("\\b(throw|throws|try|catch|synchronized|assert|yield|"
        + "volatile|transient|strictfp|native|protected|package|var|Object|Random|Thread|equals|hashCode|toString|getClass|"
        + "java\\.(?!util\\.Arrays;)\\w+|\\w+Exact)\\b|->|::|@|\\bstatic \\{");
    private static final Pattern LIBRARY = Pattern.compile("\\b(Math|Arrays|Integer|Long|System)\\.(\\w+)");
    private static final Set<String> ALLOWED = Set.of("Math.max", "Math.min", "Math.abs", "Arrays.fill", "Arrays.copyOf",
        "Arrays.copyOfRange", "System.arraycopy");
    private static final Pattern METHOD = Pattern.compile("\\n( +)[\\w\\[\\] ]+\\([\\w\\[\\], \\n]*\\) \\{\\n.*?\\n\\1\\}", Pattern.DOTALL);
    private static final int MOST_LINES = 60;
    private static final int MOST_PARAMETERS = 7;
    private static final int MOST_CLASSES = 12;
    private static final int MOST_FIELDS = 20;
    private static final Due DUE = new Due();

    private static List<Class<?>> classes() {
        List<Class<?>> all = new ArrayList<>(List.of(MarksRegister.class.getDeclaredClasses()));
        all.add(MarksRegister.class);
        return all;
    }

    private static void words(String code) {
        Matcher m = FORBIDDEN.matcher(code);
        while (m.find()) {
            DUE.yes("no '" + m.group() + "' in the source", false);
        }
        Matcher used = LIBRARY.matcher(code);
        while (used.find()) {
            DUE.yes("of the library: " + used.group(), ALLOWED.contains(used.group()));
        }
        DUE.no("a text in the source", code.contains("\""));
    }

    private static void lengths(String text) {
        Matcher m = METHOD.matcher(text);
        int methods = 0;
        while (m.find()) {
            methods++;
            String head = m.group().strip().lines().findFirst().orElse("");
            DUE.yes("short: " + head, m.group().strip().lines().count() <= MOST_LINES);
        }
        DUE.yes("methods were found: " + methods, methods >= 22);
    }

    private static void parameters(Executable e) {
        DUE.yes("parameters of " + e, e.getParameterCount() <= MOST_PARAMETERS);
    }

    private static void isPlain(Field f) {
        Class<?> type = f.getType();
        Class<?> inside = type.isArray() ? type.getComponentType() : type;
        DUE.yes("a type of its own or a number: " + f, inside.isPrimitive() || classes().contains(inside));
        boolean isStatic = Modifier.isStatic(f.getModifiers());
        DUE.yes("a static field is a constant: " + f, !isStatic || (Modifier.isFinal(f.getModifiers()) && type.isPrimitive()));
    }

    private static void shapes() {
        DUE.yes("classes", classes().size() <= MOST_CLASSES);
        for (Class<?> c : classes()) {
            int fields = 0;
            for (Field f : c.getDeclaredFields()) {
                isPlain(f);
                fields += Modifier.isStatic(f.getModifiers()) ? 0 : 1;
            }
            DUE.yes("fields of " + c, fields <= MOST_FIELDS);
            DUE.no("local, anonymous or inner: " + c,
                c != MarksRegister.class && (c.isAnonymousClass() || c.isLocalClass() || !Modifier.isStatic(c.getModifiers())));
            for (Method m : c.getDeclaredMethods()) {
                parameters(m);
            }
            for (Constructor<?> k : c.getDeclaredConstructors()) {
                parameters(k);
            }
        }
    }

    public static void main(String[] args) throws IOException {
        String text = Files.readString(SOURCE);
        DUE.yes("plain signs alone", text.chars().allMatch(c -> c < 128));
        words(COMMENTS.matcher(text).replaceAll(" "));
        lengths(text);
        shapes();
        DUE.end();
    }
}
