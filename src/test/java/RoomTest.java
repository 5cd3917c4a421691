import com.sun.management.ThreadMXBean;
import java.lang.management.ManagementFactory;

/** All calls of a run live in one room: an object has its rows once, and calls make nothing new. */
public final class RoomTest {
    private static final Due DUE = new Due();
    private static final long MOST_BYTES_OF_AN_OBJECT = 40_000;
    private static final ThreadMXBean THREADS = (ThreadMXBean) ManagementFactory.getThreadMXBean();

    public static void main(String[] args) {
        dearestCalls(new TaughtTongues());
        long ahead = THREADS.getCurrentThreadAllocatedBytes();
        TaughtTongues x = new TaughtTongues();
        long made = THREADS.getCurrentThreadAllocatedBytes();
        dearestCalls(x);
        long end = THREADS.getCurrentThreadAllocatedBytes();
        DUE.holds("an object has " + (made - ahead) + " bytes", made - ahead <= MOST_BYTES_OF_AN_OBJECT);
        DUE.holds("512 calls make " + (end - made) + " bytes", end - made <= MOST_BYTES_OF_AN_OBJECT);
        DUE.end();
    }

    private static void dearestCalls(TaughtTongues x) {
        x.set(1, 4);
        for (int i = 0; i < 51; i++) {
            x.set(0, i % 6);
            x.chosen(7, -1);
            x.lasts(1);
            x.weight(i % 3, i % 4 + 1);
            x.often(7, i % 3, 12);
            x.lives(7, 0, 1, 2, 1);
            x.back(7, 2, 7, 0);
            x.guess(7, 2, 1);
            x.book(7, 2, 0, 7, 0);
            x.thinks(7, 1);
        }
    }
}
