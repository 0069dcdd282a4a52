import java.lang.management.ManagementFactory;

/** The room that all calls of a run live in: no call makes an object, so a run needs what its object needs. */
public final class RoomTest {
    /** An object is used for 512 calls at most: ten are made ahead, the longest round takes eight. */
    private static final int CALLS = 512 - 10 - 8;
    /** An object with all its rows; what a run may have in all is 7.3 million fields and elements. */
    private static final long ROOM = 200000;

    public static void main(String[] args) {
        com.sun.management.ThreadMXBean threads = (com.sun.management.ThreadMXBean) ManagementFactory.getThreadMXBean();
        runs();
        runs();
        long before = threads.getCurrentThreadAllocatedBytes();
        int made = runs();
        long bytes = threads.getCurrentThreadAllocatedBytes() - before;
        Due.holds("a run takes " + bytes / made + " bytes", bytes / made < ROOM);
        Due.end();
    }

    /** Runs of the dearest calls, each on a new object: how many. */
    private static int runs() {
        for (int run = 0; run < 5; run++) {
            JarMinutes x = new JarMinutes();
            for (int i = 0; i < 8; i++) {
                x.person(i % 4, 3 * i, 90);
            }
            x.sheet(0, 1, 24);
            x.image();
            for (int calls = 0; calls < CALLS;) {
                calls += dearest(x, run);
            }
        }
        return 5;
    }

    /** One round of calls: how many they were. */
    private static int dearest(JarMinutes x, int run) {
        switch (run) {
            case 0:
                x.spend(30);
                return 1;
            case 1:
                x.share(3);
                return 1;
            case 2:
                x.sure(7, 0, 1, 0, 8);
                x.clocks(0, 1, 0, 8);
                return 2;
            case 3:
                x.lots(30);
                x.restore();
                return 2;
            default:
                x.sheet(1, 2, 24);
                x.type(Due.packed("c8"), 2);
                x.town();
                x.type(Due.packed("8+3"), 3);
                x.plan();
                x.best(1, 5);
                x.vote(2);
                return 7;
        }
    }
}
