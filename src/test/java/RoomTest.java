import com.sun.management.ThreadMXBean;
import java.lang.management.ManagementFactory;

/** All calls of an object, each of them the dearest, stay within the one room that a run has. */
public final class RoomTest {
    private static final int CALLS = 512;
    /** 600,000 objects, of sixteen bytes at least, and 7.3 million elements, of one byte at least. */
    private static final long ROOM_BYTES = 600_000L * 16 + 7_300_000L;
    private static final Check CHECK = new Check("RoomTest");

    public static void main(String[] args) {
        ThreadMXBean threads = (ThreadMXBean) ManagementFactory.getThreadMXBean();
        long warm = bytesOf(threads, false) + bytesOf(threads, true);
        CHECK.isTrue("the machine counts bytes", warm > 0);
        long digests = bytesOf(threads, false);
        CHECK.isTrue("digests and proofs make " + digests + " bytes", digests <= ROOM_BYTES);
        long texts = bytesOf(threads, true);
        CHECK.isTrue("texts make " + texts + " bytes", texts <= ROOM_BYTES);
        CHECK.finish();
    }

    private static long bytesOf(ThreadMXBean threads, boolean isTexts) {
        Exactdoubles board = new Exactdoubles();
        for (int cell = 0; cell < 6; cell++) {
            board.sample(cell, 3 + cell % 3, cell % 2 == 0);
        }
        long before = threads.getThreadAllocatedBytes(Thread.currentThread().getId());
        long seen = 0;
        for (int i = 0; i < CALLS; i++) {
            if (isTexts) {
                seen += board.text(i % 6).length();
            } else {
                seen += board.digest() + (board.isSound() ? 1 : 0);
            }
        }
        long after = threads.getThreadAllocatedBytes(Thread.currentThread().getId());
        CHECK.isTrue("something was answered", seen != 0);
        return after - before;
    }
}
