import java.lang.reflect.InvocationTargetException;
import java.lang.reflect.Method;
import java.lang.reflect.Modifier;
import java.util.Arrays;
import java.util.Comparator;
import java.util.Random;

/** No call throws, for any arguments in any state, also where every limit is reached or passed. */
public final class AnyArgumentsTest {
    private static final int[] EDGES = {Integer.MIN_VALUE, -360, -2, -1, 0, 1, 2, 3, 8, 9, 12, 15, 16, 19, 20, 25, 26,
        27, 39, 40, 41, 65, 66, 99, 100, 119, 120, 359, 360, 399, 400, 999, 1000, 1001, 32767, 32768, 60000, 60001,
        Integer.MAX_VALUE};
    private static final Due DUE = new Due();

    private static Method[] calls() {
        Method[] calls = Arrays.stream(MarksRegister.class.getDeclaredMethods())
            .filter(m -> Modifier.isPublic(m.getModifiers())).toArray(Method[]::new);
        Arrays.sort(calls, Comparator.comparing(Method::getName));
        return calls;
    }

    private static void ask(MarksRegister r, Method m, Object... arguments) {
        try {
            m.invoke(r, arguments);
        } catch (InvocationTargetException | IllegalAccessException e) {
            DUE.yes(m.getName() + Arrays.toString(arguments) + " threw " + e.getCause(), false);
        }
    }

    private static Object[] edges(Random random, int count) {
        Object[] arguments = new Object[count];
        for (int i = 0; i < count; i++) {
            arguments[i] = random.nextInt(3) == 0 ? EDGES[random.nextInt(EDGES.length)] : random.nextInt(4);
        }
        return arguments;
    }

    private static void edgesInAnyState(Random random) {
        Method[] calls = calls();
        for (int run = 0; run < 200; run++) {
            MarksRegister r = new MarksRegister();
            for (int i = 0; i < 2000; i++) {
                Method m = calls[random.nextInt(calls.length)];
                ask(r, m, edges(random, m.getParameterCount()));
            }
            DUE.yes("papers within their limit", r.about(1) <= 400);
            DUE.yes("marks within their limit", r.about(0) <= 120);
        }
    }

    /** 120 marks of 40 letters, 20 goods each as far as papers reach, 100 pairs. */
    private static MarksRegister full() {
        MarksRegister r = new MarksRegister();
        for (int m = 0; m < 120; m++) {
            r.mark(m % 5, m % 100);
            for (int l = 0; l < 41; l++) {
                r.letter(m, l % 26);
                r.code(m, l);
            }
        }
        for (int i = 0; i < 101; i++) {
            r.near(i, 300, 999);
        }
        for (int i = 0; i < 401; i++) {
            r.paper(i % 21 == 20 ? 1 : 0, i / 21, i % 21 == 20 ? 0 : i % 21, 100);
        }
        return r;
    }

    private static void everyLimit(Random random) {
        MarksRegister r = full();
        DUE.is("marks", r.about(0), 120);
        DUE.is("papers", r.about(1), 400);
        DUE.is("pairs", r.about(3), 100);
        DUE.is("the longest words", r.like(0, 5, 1), 0);
        DUE.is("goods", r.state(18, 100, 4), 20);
        DUE.is("the first of many", r.first(18, 0, 100), 0);
        for (Method m : calls()) {
            for (int i = 0; i < 300; i++) {
                ask(r, m, edges(random, m.getParameterCount()));
            }
        }
    }

    public static void main(String[] args) {
        Random random = new Random(7);
        edgesInAnyState(random);
        everyLimit(random);
        DUE.end();
    }
}
