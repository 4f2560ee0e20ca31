import com.sun.management.ThreadMXBean;
import java.lang.management.ManagementFactory;

/** All calls of a run live in one room: calls make no objects, and a new object is small. */
public final class RoomTest {
    private static final Due due = new Due();
    private static final ThreadMXBean threads = (ThreadMXBean) ManagementFactory.getThreadMXBean();
    private static int sum = 0;

    public static void main(String[] args) {
        callsOfOneObject();
        long ahead = allocated();
        callsOfOneObject();
        long taken = allocated() - ahead;
        due.holds("an object and all its calls take " + taken + " bytes", taken < 40_000);
        due.holds("the calls were made", sum != 0);
        due.end();
    }

    private static long allocated() {
        return threads.getThreadAllocatedBytes(Thread.currentThread().getId());
    }

    private static void callsOfOneObject() {
        SelfChecks x = new SelfChecks();
        for (int i = 0; i < 20; i++) {
            sum += x.build(4) + x.code(0, 0) + x.gate(3, 2, 1, 0) + x.add(5, 1, 2) + x.rails(3, 4);
            sum += x.write('n') + x.write('8') + x.write(';') + x.fault() + x.lay() + x.wipe();
            sum += x.stuck(3, 0) + x.test(-1) + x.both(2, 9, 1) + x.both(2, 9, 0) + x.stucks(3);
            sum += x.missed() + x.near() + x.out(7, 5) + x.wire(200, 3) + x.is(0) + x.undo();
        }
    }
}
