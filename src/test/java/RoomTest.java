import com.sun.management.ThreadMXBean;
import java.lang.management.ManagementFactory;
import java.lang.reflect.Array;
import java.lang.reflect.Field;
import java.lang.reflect.Modifier;
import java.util.ArrayDeque;
import java.util.Deque;
import java.util.IdentityHashMap;
import java.util.Map;

/**
 * What a run makes (LANGUAGE.md, rule 12): a new object and its marks take little room, and no other
 * call makes anything, so that the room of 600,000 objects and 7.3 million elements holds many runs.
 */
public final class RoomTest {
    private static final int MOST_OBJECTS_AT_FIRST = 50;
    private static final int MOST_ELEMENTS_AT_FIRST = 9000;
    private static final int MOST_OBJECTS_OF_A_MARK = 3;
    private static final int MOST_ELEMENTS_OF_A_MARK = 60;
    private static final Due DUE = new Due();

    private int objects = 0;
    private int elements = 0;

    /** Counts what can be reached from the object, each array's elements and each object's fields. */
    private RoomTest(Object root) throws IllegalAccessException {
        Map<Object, Boolean> seen = new IdentityHashMap<>();
        Deque<Object> open = new ArrayDeque<>();
        open.add(root);
        while (!open.isEmpty()) {
            Object o = open.remove();
            if (seen.put(o, true) == null) {
                objects++;
                count(o, open);
            }
        }
    }

    private void count(Object o, Deque<Object> open) throws IllegalAccessException {
        if (o.getClass().isArray()) {
            elements += Array.getLength(o);
            for (int i = 0; i < Array.getLength(o) && !o.getClass().getComponentType().isPrimitive(); i++) {
                add(Array.get(o, i), open);
            }
            return;
        }
        for (Field f : o.getClass().getDeclaredFields()) {
            if (!Modifier.isStatic(f.getModifiers())) {
                elements++;
                f.setAccessible(true);
                add(f.getType().isPrimitive() ? null : f.get(o), open);
            }
        }
    }

    private static void add(Object o, Deque<Object> open) {
        if (o != null) {
            open.add(o);
        }
    }

    private static void whatIsKept() throws IllegalAccessException {
        MarksRegister r = new MarksRegister();
        RoomTest first = new RoomTest(r);
        DUE.yes("objects at first: " + first.objects, first.objects <= MOST_OBJECTS_AT_FIRST);
        DUE.yes("elements at first: " + first.elements, first.elements <= MOST_ELEMENTS_AT_FIRST);
        for (int m = 0; m < 120; m++) {
            r.mark(m % 5, 0);
        }
        RoomTest full = new RoomTest(r);
        DUE.yes("objects of marks: " + full.objects, full.objects <= first.objects + 120 * MOST_OBJECTS_OF_A_MARK);
        DUE.yes("elements of marks: " + full.elements, full.elements <= first.elements + 120 * MOST_ELEMENTS_OF_A_MARK);
        callAll(r);
        RoomTest last = new RoomTest(r);
        DUE.is("objects behind all calls", last.objects, full.objects);
        DUE.is("elements behind all calls", last.elements, full.elements);
    }

    /** Every call but mark, on marks that stand in one another's way. */
    private static int callAll(MarksRegister r) {
        int sum = 0;
        for (int i = 0; i < 10; i++) {
            boolean told = r.row(i, i) & r.sound(i, 0, 1) & r.cost(i, 40, 5) & r.near(i, 100, 700) & r.levels(500, 500);
            sum += (told ? 1 : 0) + r.letter(i, i) + r.code(i, i) + r.paper(0, i, i, 5) + r.paper(1, i, i % 2, 5);
            sum += r.paperOf(i, 0) + r.markOf(i, 3) + r.soundOf(i, 0) + r.like(i, 0, 0) + r.like(i, 0, 1);
            sum += r.right(i, i, 0, 5, 2) + r.state(i, 5, 4) + r.clash(0, i, 0, 5) + r.first(i, 0, 5);
            sum += r.may(1, i, i, 0, 5) + r.watch(0) + r.about(i) + r.oppose(i, 0, 5) + r.undo();
        }
        return sum;
    }

    /** Nor do calls make what they don't keep. */
    private static void whatIsMade() {
        ThreadMXBean threads = (ThreadMXBean) ManagementFactory.getThreadMXBean();
        long least = Long.MAX_VALUE;
        for (int run = 0; run < 20; run++) {
            MarksRegister r = new MarksRegister();
            for (int m = 0; m < 12; m++) {
                r.mark(m % 5, m);
            }
            long ahead = threads.getCurrentThreadAllocatedBytes();
            callAll(r);
            least = Math.min(least, threads.getCurrentThreadAllocatedBytes() - ahead);
        }
        long idle = threads.getCurrentThreadAllocatedBytes();
        idle = threads.getCurrentThreadAllocatedBytes() - idle;
        DUE.is("bytes that calls make", least, idle);
    }

    public static void main(String[] args) throws IllegalAccessException {
        whatIsKept();
        whatIsMade();
        DUE.end();
    }
}
