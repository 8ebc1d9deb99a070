import com.sun.management.ThreadMXBean;
import java.lang.management.ManagementFactory;

/** All calls of a run live in one room: an object makes its rows once, and its dearest calls use them again. */
public final class RoomTest {
    private static final Checks CHECKS = new Checks();
    private static final ThreadMXBean THREADS = (ThreadMXBean) ManagementFactory.getThreadMXBean();
    private static final String TEXT = "abcdefgh ab 1";

    public static void main(String[] args) {
        runOfCalls();
        objectsAlone();
        long before = made();
        runOfCalls();
        long ofCalls = made() - before;
        CHECKS.holds("512 calls made " + ofCalls + " bytes, less than 200,000", ofCalls < 200_000);
        before = made();
        objectsAlone();
        long ofObjects = made() - before;
        CHECKS.holds("100 objects made " + ofObjects + " bytes, less than 1,000,000", ofObjects < 1_000_000);
        CHECKS.end();
    }

    private static long made() {
        return THREADS.getThreadAllocatedBytes(Thread.currentThread().getId());
    }

    private static void objectsAlone() {
        for (int i = 0; i < 100; i++) {
            new StatePuzzles().jugs();
        }
    }

    private static void runOfCalls() {
        StatePuzzles x = new StatePuzzles();
        for (int i = 0; i < 4; i++) {
            x.jug(6 + i, i);
            x.jugs();
        }
        x.goal(0, 3);
        x.goal(1, 4);
        for (int i = 10; i < 512; i++) {
            if (i % 16 < 13) {
                x.unit(TEXT.charAt(i % 16));
            } else if (i % 16 == 13) {
                x.crossing();
            } else {
                x.jugs();
            }
        }
    }
}
