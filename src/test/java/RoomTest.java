import com.sun.management.ThreadMXBean;
import java.lang.management.ManagementFactory;

/** What the 512 calls of one object make stays small. */
public final class RoomTest {
    // A full object has some 300 objects of some 3,000 fields and elements; other calls than row make nothing.
    private static final long MOST_BYTES = 64 * 1024;
    private static final int ROUNDS = 26;

    private static final ThreadMXBean THREADS = (ThreadMXBean) ManagementFactory.getThreadMXBean();

    public static void main(String[] args) {
        Check check = new Check();
        // The first object loads the classes.
        useUp(new SignQuorum());
        long before = made();
        SignQuorum x = new SignQuorum();
        long sum = useUp(x);
        long bytes = made() - before;
        check.yes("one object and its calls make few bytes: " + bytes, bytes < MOST_BYTES);
        check.yes("the calls were made", sum != 0);
        check.end();
    }

    private static long made() {
        return THREADS.getCurrentThreadAllocatedBytes();
    }

    /** 20 keys, 24 rows, and 26 rounds of 18 calls: all 512. */
    private static long useUp(SignQuorum x) {
        long sum = 0;
        for (int k = 0; k < 20; k++) {
            sum += x.key(k, 100);
        }
        for (int row = 0; row < 24; row++) {
            sum += x.row(row % 10, 1, 100);
        }
        for (int round = 0; round < ROUNDS; round++) {
            sum += callAll(x, round % 24);
        }
        return sum;
    }

    private static long callAll(SignQuorum x, int row) {
        return x.octet(row, 1) + x.lists(row, 1) + x.delegate(row, 1, 4, true) + (x.tells(row, 3, 1) ? 1 : 0)
            + x.sign(row, row % 20) + (x.forge(row, row % 20, 5) ? 1 : 0) + x.verify(row, 0) + x.update(row, 0)
            + x.find(0x12) + x.hash(row) + x.digest(row) + x.about(row, 3) + x.version(row) + x.current(row)
            + x.key(1, 1) + x.row(0, 1, 1) + (x.holds(3, 1, true) ? 1 : 0) + (x.quorum(3, 2) ? 1 : 0);
    }
}
