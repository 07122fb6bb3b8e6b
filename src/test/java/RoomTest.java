import com.sun.management.ThreadMXBean;
import java.lang.management.ManagementFactory;

/** The calls of a run live in one room: what a link needs is made in its constructor and used again. */
public final class RoomTest {
    /** What the machine itself may make while it measures. */
    private static final long SPARE = 20_000;

    public static void main(String[] args) {
        measure();
        long bytes = measure();
        Checks.dueTrue("the dearest calls of a run make no objects, but " + bytes + " bytes were made", bytes < SPARE);
        Checks.end();
    }

    private static long measure() {
        ThreadMXBean thread = (ThreadMXBean) ManagementFactory.getThreadMXBean();
        Face x = Links.with(Links.BOTH, 1, 2, 3, 4, 5, 6, 7, 8, 9, 10, 11, 12, 13, 14, 15, 16);
        long before = thread.getThreadAllocatedBytes(Thread.currentThread().getId());
        for (int k = 0; k < Program.MOST_CALLS / 4 - 1; k++) {
            x.tell(1, true);
            x.begin(2, 1);
            x.run(40);
            x.put(1, true, k, 8);
        }
        return thread.getThreadAllocatedBytes(Thread.currentThread().getId()) - before;
    }
}
