import java.lang.management.ManagementFactory;

/** All calls of a run share one room: an object is made once with all its rows, and calls make nothing. */
final class RoomTest {
    private static final int MOST_BYTES_OF_AN_OBJECT = 80_000;
    private static final int MOST_BYTES_OF_ALL_CALLS = 20_000;

    private static final Due DUE = new Due("RoomTest");
    private static final com.sun.management.ThreadMXBean ROOM =
        (com.sun.management.ThreadMXBean) ManagementFactory.getThreadMXBean();

    public static void main(String[] args) {
        dearestCalls(new BroadSheet());
        long before = used();
        BroadSheet x = new BroadSheet();
        long made = used();
        dearestCalls(x);
        long after = used();
        DUE.holds("an object takes " + (made - before) + " bytes", made - before <= MOST_BYTES_OF_AN_OBJECT);
        DUE.holds("its calls take " + (after - made) + " bytes", after - made <= MOST_BYTES_OF_ALL_CALLS);
        DUE.end();
    }

    private static long used() {
        return ROOM.getThreadAllocatedBytes(Thread.currentThread().getId());
    }

    private static void dearestCalls(BroadSheet x) {
        x.sheet(24);
        x.kind(1, 1, 2000);
        x.kind(24, 24, 2000);
        for (int g = 0; g < 9; g++) {
            x.grade();
        }
        for (int n = 0; n < 50; n++) {
            x.base(n % 24, 40 * n);
            x.best(n % 2);
            x.cut();
            x.cutAt(n % 24);
            x.cost(n % 9, (n + 1) % 9, n);
            x.tour(n % 9);
            x.tourAt(n % 9, 8);
            x.read(n % 40, n % 24, n);
            x.groups();
            x.take();
        }
    }
}
