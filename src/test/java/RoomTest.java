import com.sun.management.ThreadMXBean;
import java.lang.management.ManagementFactory;

/**
 * All calls of a run live in one room: an object is made with all its rows, and the calls that do
 * not throw make nothing more.
 */
public final class RoomTest {
    /** 512 new objects of this size are far below the 7.3 million elements of the room. */
    private static final long MOST_BYTES_OF_AN_OBJECT = 40_000;
    /** What the measuring itself may take. */
    private static final long MOST_BYTES_OF_THE_CALLS = 10_000;

    private static final ThreadMXBean THREADS =
            (ThreadMXBean) ManagementFactory.getThreadMXBean();

    public static void main(String[] args) {
        Arrivalbooks x = new Arrivalbooks();
        dearCalls(x);
        long before = bytes();
        x = new Arrivalbooks();
        long made = bytes();
        dearCalls(x);
        long called = bytes();
        Expect.due("a new object is small", made - before <= MOST_BYTES_OF_AN_OBJECT, true);
        Expect.due("its calls make nothing", called - made <= MOST_BYTES_OF_THE_CALLS, true);
        System.out.println("an object " + (made - before) + " bytes, 512 calls "
                + (called - made) + " bytes");
        Expect.finish("RoomTest");
    }

    private static long bytes() {
        return THREADS.getThreadAllocatedBytes(Thread.currentThread().getId());
    }

    private static void dearCalls(Arrivalbooks x) {
        for (int from = 0; from < 180; from += 60) {
            x.fill(0, from - 1000000000, 1, 60);
        }
        for (int number = 0; number < 60; number++) {
            x.offer(number);
        }
        for (int round = 0; round < 44; round++) {
            x.copy(0, 1);
            x.pour(1, 2);
            x.write(1);
            x.errors();
            x.areEqual(0, 1);
            x.addToAll(1, -1000000000);
            x.open(0, 1, Arrivalbooks.PAIRS);
            x.next(0);
            x.setAt(0, 7);
            x.removeAt(0);
        }
    }
}
