import com.sun.management.ThreadMXBean;
import java.lang.management.ManagementFactory;
import java.lang.reflect.Array;
import java.lang.reflect.Field;
import java.lang.reflect.Modifier;
import java.util.ArrayDeque;
import java.util.Collections;
import java.util.Deque;
import java.util.IdentityHashMap;
import java.util.Set;
import java.util.function.Supplier;
import java.util.function.ToLongFunction;

/**
 * All calls of one run live in one room of some 600,000 objects and 7.3 million fields and elements. With 512
 * calls that is 1,171 objects and 14,257 fields and elements for each of them, were each a new object.
 */
public final class RoomTest {
    private static final int CALLS = 512, OBJECTS = 600_000 / CALLS, ELEMENTS = 7_300_000 / CALLS;
    private static final int NONE = CoverMarks.NONE;
    private static final int DATE = Due.date("1?3");
    private static final ThreadMXBean THREADS = (ThreadMXBean) ManagementFactory.getThreadMXBean();
    private static final Due due = new Due();
    /** Kept, so that no call is left out as one whose answer nobody asks for. */
    private static long answers = 0;

    public static void main(String[] args) throws IllegalAccessException {
        aNewObject();
        anObjectThatIsFull();
        questionsMakeNothing();
        refusedCallsMakeNothing();
        changesThatMakeNothing();
        due.end();
    }

    private static void aNewObject() throws IllegalAccessException {
        long[] size = sizeOf(new CoverMarks());
        atMost("objects of a new one", size[0], OBJECTS);
        atMost("fields and elements of a new one", size[1], ELEMENTS);
        due.is("a new one makes nothing that is told here", madeBy(x -> new CoverMarks().count(0), States.full()) > 0 ? 0 : 1, 0);
    }

    /** What office, die and mark make stays, and is bounded by how many there may be. */
    private static void anObjectThatIsFull() throws IllegalAccessException {
        long[] before = sizeOf(new CoverMarks());
        long[] after = sizeOf(States.full());
        atMost("objects that 60 calls keep", after[0] - before[0], 60L * OBJECTS);
        atMost("fields and elements that 60 calls keep", after[1] - before[1], 60L * ELEMENTS);
        // no object takes less than 16 bytes
        atMost("bytes that a mark makes", madeBy(x -> x.mark(3, 2, 0, 1, 1, DATE, 30, 9), States.some()), 16L * OBJECTS);
    }

    private static void atMost(String told, long many, long most) {
        due.is(told + ", or as many as may be", Math.max(many, most), most);
    }

    private static void makesNothing(String call, ToLongFunction<CoverMarks> asked) {
        makesNothing(call + " of some", asked, States::some);
        makesNothing(call + " of a full one", asked, States::full);
    }

    /** The least of three tries: what the machine itself makes now and then is not the call's. */
    private static void makesNothing(String call, ToLongFunction<CoverMarks> asked, Supplier<CoverMarks> state) {
        long least = Long.MAX_VALUE;
        for (int i = 0; i < 3 && least != 0; i++) {
            least = Math.min(least, madeBy(asked, state.get()));
        }
        due.is(call + ": bytes that it makes", least, 0);
    }

    private static void questionsMakeNothing() {
        makesNothing("lean", x -> x.lean(3, 1));
        makesNothing("about", x -> x.about(1, 4));
        makesNothing("span", x -> x.span(1, 0));
        makesNothing("can", x -> x.can(1, 500));
        makesNothing("marks", x -> x.marks(1, 999));
        makesNothing("soonest", x -> x.soonest(0, 1, 5));
        makesNothing("goes", x -> x.goes(1, 999, 1));
        makesNothing("when, soon", x -> x.when(1, 999, 0, 0));
        makesNothing("when, late", x -> x.when(1, 999, 0, 1));
        makesNothing("bars", x -> x.bars(1, 999));
        makesNothing("fewest", x -> x.fewest(1, 999, 2));
        makesNothing("owed", x -> x.owed(0, 1, 5, 16, 1));
        makesNothing("weights", x -> x.weights(0, 1, 5, 12, 0));
        makesNothing("mail", x -> x.mail(1, 2, 999));
        makesNothing("heap", x -> x.heap(1, 999));
        makesNothing("many", x -> x.many(1, 999));
        makesNothing("look", x -> x.look(1, 999));
        makesNothing("count", x -> x.count(6));
        makesNothing("trace", x -> x.trace());
    }

    private static void refusedCallsMakeNothing() {
        makesNothing("office, bad", x -> x.office(6, 0, 0));
        makesNothing("die, bad", x -> x.die(8, 1, 0, 0, 0));
        makesNothing("mark, bad", x -> x.mark(8, 2, 0, 1, 1, DATE, 30, 9));
        makesNothing("sail, bad", x -> x.sail(1, 1, 0, 0));
        makesNothing("goes, state", x -> x.goes(0, 999, 0));
        makesNothing("office, full", x -> x.office(1, 5, 50), States::full);
        makesNothing("die, full", x -> x.die(1, 3, 5, 50, 20), States::full);
        makesNothing("mark, full", x -> x.mark(1, 2, 0, 1, 1, DATE, 30, 9), States::full);
    }

    private static void changesThatMakeNothing() {
        makesNothing("town", x -> x.town(1, 2));
        makesNothing("sail", x -> x.sail(0, 1, 5, 50));
        makesNothing("late", x -> x.late(0, NONE));
        makesNothing("road", x -> x.road(0, 1, 30));
        makesNothing("type", x -> x.type(32, 1));
        makesNothing("rates", x -> x.rates());
        makesNothing("clear", x -> x.clear());
    }

    /** Asked of another object first, so that what the machine makes once is not counted. */
    private static long madeBy(ToLongFunction<CoverMarks> call, CoverMarks x) {
        answers += call.applyAsLong(States.some()) + THREADS.getCurrentThreadAllocatedBytes();
        long before = THREADS.getCurrentThreadAllocatedBytes();
        answers += call.applyAsLong(x);
        return THREADS.getCurrentThreadAllocatedBytes() - before;
    }

    /** How many objects and arrays hang on an object, and how many fields and elements they have. */
    private static long[] sizeOf(CoverMarks x) throws IllegalAccessException {
        Set<Object> seen = Collections.newSetFromMap(new IdentityHashMap<>());
        Deque<Object> open = new ArrayDeque<>();
        open.add(x);
        seen.add(x);
        long elements = 0;
        while (!open.isEmpty()) {
            Object next = open.poll();
            if (next.getClass().isArray()) {
                elements += Array.getLength(next);
                for (int i = 0; i < Array.getLength(next) && !next.getClass().getComponentType().isPrimitive(); i++) {
                    found(Array.get(next, i), seen, open);
                }
                continue;
            }
            for (Field f : next.getClass().getDeclaredFields()) {
                if (Modifier.isStatic(f.getModifiers())) {
                    continue;
                }
                elements++;
                f.setAccessible(true);
                if (!f.getType().isPrimitive()) {
                    found(f.get(next), seen, open);
                }
            }
        }
        return new long[] {seen.size(), elements};
    }

    private static void found(Object held, Set<Object> seen, Deque<Object> open) {
        if (held != null && seen.add(held)) {
            open.add(held);
        }
    }
}
