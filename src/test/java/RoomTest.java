import java.lang.management.ManagementFactory;

/** Calls make no objects, and a new object is small: so a run of any calls stays in its room. */
public final class RoomTest {
    private static final com.sun.management.ThreadMXBean THREADS =
        (com.sun.management.ThreadMXBean) ManagementFactory.getThreadMXBean();
    // What the measuring itself may take; one object a call would be over it by far.
    private static final long SLACK = 4096;
    // A run has 512 calls, and its room 7.3 million elements, of 4 bytes each here:
    // even if every call made a new object they would all fit.
    private static final long ONE_DEPOT = 7_300_000 / 512 * 4;

    private RoomTest() {
    }

    public static void main(String[] args) {
        dearRun(new ObjectDepot());
        long before = THREADS.getCurrentThreadAllocatedBytes();
        ObjectDepot depot = new ObjectDepot();
        long made = THREADS.getCurrentThreadAllocatedBytes() - before;
        Check.yes("a new object takes " + made + " bytes", made < ONE_DEPOT);
        before = THREADS.getCurrentThreadAllocatedBytes();
        int members = dearRun(depot);
        made = THREADS.getCurrentThreadAllocatedBytes() - before;
        Check.yes("the calls take " + made + " bytes", made < SLACK);
        Check.same("members of the last pack", members, 9);
        Check.end();
    }

    /** 500 calls with all that can make something: the dearest ones most often. */
    private static int dearRun(ObjectDepot x) {
        int members = 0;
        x.tree();
        for (int i = 0; i < 4; i++) {
            x.put(8, i);
            x.entry(i, x.blob());
        }
        int tree = x.tree();
        int last = x.commit(0, -1, -1, 0);
        last = x.commit(tree, last, last, 1);
        last = x.commit(tree, last, last, 2);
        x.move(0, -1, last);
        for (int i = 0; i < 60; i++) {
            x.put(3, i);
            x.blob();
            x.clean();
            x.move(0, last, last);
            x.object(last, 7);
            members = x.pack(i % 6);
            x.unpack();
            x.alter(9, 5);
        }
        return members;
    }
}
