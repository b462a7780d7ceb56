import com.sun.management.ThreadMXBean;
import java.lang.management.ManagementFactory;

/** The dearest calls make next to nothing, for all calls of a run share one room. */
public final class RoomTest {
    private static final int CALLS = 512;
    private static final long DIGEST_BYTES = 100_000;
    private static final long TEXT_BYTES_A_CALL = 200;
    private static final Check CHECK = new Check("RoomTest");

    public static void main(String[] args) {
        ThreadMXBean threads = (ThreadMXBean) ManagementFactory.getThreadMXBean();
        long warm = bytesOf(threads, false) + bytesOf(threads, true);
        CHECK.isTrue("the machine counts bytes", warm > 0);
        long digests = bytesOf(threads, false);
        CHECK.isTrue("digests and proofs make " + digests + " bytes", digests <= DIGEST_BYTES);
        long texts = bytesOf(threads, true);
        CHECK.isTrue("texts make " + texts + " bytes", texts <= DIGEST_BYTES + CALLS * TEXT_BYTES_A_CALL);
        CHECK.finish();
    }

    private static long bytesOf(ThreadMXBean threads, boolean isTexts) {
        Exactdoubles board = new Exactdoubles();
        for (int cell = 0; cell < 6; cell++) {
            board.sample(cell, 3 + cell % 3, cell % 2 == 0);
        }
        long before = threads.getThreadAllocatedBytes(Thread.currentThread().getId());
        long seen = 0;
        for (int i = 0; i < CALLS; i++) {
            if (isTexts) {
                seen += board.text(i % 6).length();
            } else {
                seen += board.digest() + (board.isSound() ? 1 : 0);
            }
        }
        long after = threads.getThreadAllocatedBytes(Thread.currentThread().getId());
        CHECK.isTrue("something was answered", seen != 0);
        return after - before;
    }
}
