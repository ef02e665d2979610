import com.sun.management.ThreadMXBean;
import java.lang.management.ManagementFactory;

/** The room: a new object is small, and calls that answer make no objects at all. */
public final class RoomTest {
    private static final ThreadMXBean THREADS = (ThreadMXBean) ManagementFactory.getThreadMXBean();

    private static BeaconRing ring;
    private static long sum;

    public static void main(String[] args) {
        // The first pass loads classes, which takes room that is not the object's.
        measure();
        long[] taken = measure();
        Run.check(taken[0] < 16_000, "a new object takes " + taken[0] + " bytes");
        Run.check(taken[1] < 1_000, "the calls of a run take " + taken[1] + " bytes");
        Run.end();
    }

    private static long[] measure() {
        long start = THREADS.getCurrentThreadAllocatedBytes();
        ring = new BeaconRing();
        long made = THREADS.getCurrentThreadAllocatedBytes();
        deal();
        for (int round = 0; round < 15; round++) {
            playRound();
        }
        return new long[] {made - start, THREADS.getCurrentThreadAllocatedBytes() - made};
    }

    private static void deal() {
        ring.begin(16, 16);
        for (int i = 1; i <= 16; i++) {
            ring.deal(i, i);
        }
        sum += ring.spoil(1, 2, 5) + ring.complain() + (ring.answer(1, 2, 0) ? 1 : 0);
        sum += ring.share(1, 2) + ring.commitment(1, 15) + (ring.isRight(1, 2, 3) ? 1 : 0);
        sum += ring.close(4);
    }

    private static void playRound() {
        for (int k = 1; k <= 16; k++) {
            sum += ring.offer(k, k, 0, 0, 0) ? 1 : 0;
        }
        sum += ring.says(3, 1) + ring.key(16, 1) + ring.round(1) + ring.value(0x1FFFE) + ring.publish();
        sum += ring.ended(1) + ring.random(1) + ring.about(3);
    }
}
