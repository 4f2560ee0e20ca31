import com.sun.management.ThreadMXBean;
import java.lang.management.ManagementFactory;
import java.lang.reflect.Array;
import java.lang.reflect.Field;
import java.lang.reflect.Modifier;
import java.util.ArrayList;
import java.util.List;

/** All calls of a run live in one room: calls make no objects, and a new object is small. */
public final class RoomTest {
    private static final int CALLS = 512;
    private static final int MOST_OBJECTS = 600_000;
    private static final int MOST_ELEMENTS = 7_300_000;
    private static final Due due = new Due();
    private static final ThreadMXBean threads = (ThreadMXBean) ManagementFactory.getThreadMXBean();
    private static int sum = 0;
    private static int objects = 0;
    private static int elements = 0;

    public static void main(String[] args) throws IllegalAccessException {
        callsMakeNothing();
        newObjectIsSmall();
        due.end();
    }

    private static void callsMakeNothing() {
        // Once ahead, so that all classes are there already.
        callAll(new SelfChecks());
        allocated();
        SelfChecks x = new SelfChecks();
        long ahead = allocated();
        callAll(x);
        // Ahead of due.same, since its text is an object, too.
        long taken = allocated() - ahead;
        due.same("bytes that the calls took", taken, 0);
        due.holds("the calls were made", sum != 0);
    }

    private static long allocated() {
        return threads.getThreadAllocatedBytes(Thread.currentThread().getId());
    }

    /** Every call of the face, 33 of them each time, so that an object is asked 495 times. */
    private static void callAll(SelfChecks x) {
        for (int i = 0; i < 15; i++) {
            sum += x.build(4) + x.code(0, 0) + x.gate(3, 2, 1, 0) + x.add(5, 1, 2) + x.rails(3, 4);
            sum += x.stuck(3, 0) + x.stuck(4, 2) + x.test(-1) + x.both(2, 9, 1) + x.both(2, 9, 0);
            sum += x.missed() + x.near() + x.out(7, 5) + x.wire(200, 3) + x.is(0) + x.undo();
            sum += x.write('n') + x.write('8') + x.write(';') + x.fault() + x.lay() + x.wipe();
            sum += x.gateOf(0, 3) + x.word(3) + x.rank(9) + x.exposes(6) + x.is(1) + x.is(2);
            sum += x.stucks(1) + x.stucks(5) + x.test(0) + x.count(6) + x.count(8);
        }
    }

    /** Even a run that makes a new object at each of its calls has room for all of them. */
    private static void newObjectIsSmall() throws IllegalAccessException {
        countParts(new SelfChecks(), new ArrayList<>());
        due.holds(objects + " objects and arrays for each", objects * CALLS < MOST_OBJECTS);
        due.holds(elements + " fields and elements for each", elements * CALLS < MOST_ELEMENTS);
    }

    private static void countParts(Object whole, List<Object> seen) throws IllegalAccessException {
        for (Object one : seen) {
            if (one == whole) {
                return;
            }
        }
        seen.add(whole);
        objects++;
        if (whole.getClass().isArray()) {
            elements += Array.getLength(whole);
            for (int i = 0; whole instanceof Object[] && i < Array.getLength(whole); i++) {
                countParts(Array.get(whole, i), seen);
            }
            return;
        }
        for (Field field : whole.getClass().getDeclaredFields()) {
            if (Modifier.isStatic(field.getModifiers())) {
                continue;
            }
            elements++;
            field.setAccessible(true);
            if (!field.getType().isPrimitive()) {
                countParts(field.get(whole), seen);
            }
        }
    }
}
