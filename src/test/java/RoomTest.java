import com.sun.management.ThreadMXBean;
import java.lang.management.ManagementFactory;

/**
 * All calls of one run live in one room. It is counted in bytes here: 7.3 million fields
 * and elements of four bytes each, which is less than the room there is.
 */
public final class RoomTest {
    private static final int CALLS = 512;
    private static final long ROOM = 4L * 7_300_000L;
    private static final ThreadMXBean threads = (ThreadMXBean) ManagementFactory.getThreadMXBean();

    public static void main(String[] args) {
        exploreAgainAndAgain();
        objectsAgainAndAgain();
        Check.end();
    }

    private static long allocated() {
        return threads.getThreadAllocatedBytes(Thread.currentThread().getId());
    }

    /** The widest RANGES, and a way with 20 EVENTS of its own for nearly each input. */
    private static PathExplorer dear() {
        PathExplorer x = new PathExplorer();
        x.method(0, 0, 2);
        x.range(0, 0, 15);
        x.range(1, 0, 15);
        for (int bit = 0; bit < 8; bit++) {
            x.emit(1, bit / 4, 0);
            x.emit(0, 1 << bit % 4, 0);
            x.emit(8, 0, 0);
            x.emit(23, 4 * bit + 4, 1);
        }
        x.emit(1, 0, 0);
        x.emit(23, 32, 3);
        return x;
    }

    private static void exploreAgainAndAgain() {
        PathExplorer x = dear();
        long before = allocated();
        for (int n = 0; n < CALLS - 60; n++) {
            x.explore(n & 1);
        }
        long used = allocated() - before;
        System.out.println("  " + (CALLS - 60) + " explores: " + used + " bytes");
        Check.due("explore keeps to the rows it has", used < ROOM / 10, true);
        PathExplorer y = dear();
        y.explore(0);
        Check.due("20 EVENTS", y.test(0, 4), 20);
        before = allocated();
        for (int n = 0; n < CALLS / 8; n++) {
            y.run(n, n);
            y.covered(n, 0);
            y.test(n, 0);
            y.event(n, 0, 0);
            y.range(0, n, n);
            y.clear();
            y.method(0, 0, 2);
        }
        Check.due("other calls make nothing", allocated() - before < 10000, true);
    }

    /** Even a run of calls that makes objects only, and explores with each. */
    private static void objectsAgainAndAgain() {
        long before = allocated();
        for (int n = 0; n < CALLS; n++) {
            new PathExplorer();
        }
        long made = allocated() - before;
        before = allocated();
        for (int n = 0; n < CALLS / 3; n++) {
            PathExplorer x = new PathExplorer();
            x.method(0, 0, 2);
            x.explore(0);
        }
        long explored = allocated() - before;
        System.out.println("  " + CALLS + " objects: " + made + " bytes; a third, explored: " + explored + " bytes");
        Check.due("objects alone fit", made < ROOM, true);
        Check.due("objects that explore fit", explored < ROOM, true);
    }
}
