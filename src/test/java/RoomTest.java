import com.sun.management.ThreadMXBean;
import java.lang.management.ManagementFactory;
import java.util.LinkedHashMap;
import java.util.Map;

/** An object's calls, all of them of one method on the numbers that are dearest to it, stay within the room of a run. */
public final class RoomTest {
    private static final int CALLS = 512;
    /** 600,000 objects, of sixteen bytes at least, and 7.3 million elements, of one byte at least. */
    private static final long ROOM_BYTES = 600_000L * 16 + 7_300_000L;
    /** What a text takes: the object, its signs (no text has more than 24), and what the machine adds to both. */
    private static final long TEXT_BYTES = 80;
    /** The board and, once, its row of signs as it grows. */
    private static final long SLACK_BYTES = 4096;
    private static final Check CHECK = new Check("RoomTest");

    private interface Call {
        Object on(Exactdoubles board, int cell);
    }

    public static void main(String[] args) {
        ThreadMXBean threads = (ThreadMXBean) ManagementFactory.getThreadMXBean();
        CHECK.isTrue("the machine counts bytes", bytesOf(threads, Exactdoubles::text) > 0);
        for (Map.Entry<String, Call> call : texts().entrySet()) {
            check(threads, call.getKey(), call.getValue(), CALLS * TEXT_BYTES);
        }
        for (Map.Entry<String, Call> call : others().entrySet()) {
            check(threads, call.getKey(), call.getValue(), 0);
        }
        CHECK.finish();
    }

    private static Map<String, Call> texts() {
        Map<String, Call> calls = new LinkedHashMap<>();
        calls.put("text", Exactdoubles::text);
        calls.put("rounded", Exactdoubles::rounded);
        calls.put("cut", Exactdoubles::cut);
        calls.put("floorOf", Exactdoubles::floorOf);
        calls.put("ceilOf", Exactdoubles::ceilOf);
        calls.put("rintOf", Exactdoubles::rintOf);
        calls.put("stepOf", Exactdoubles::stepOf);
        calls.put("nextOf", (board, cell) -> board.nextOf(cell, true));
        calls.put("timesOf", (board, cell) -> board.timesOf(cell, -3));
        calls.put("greatest", (board, cell) -> board.greatest());
        calls.put("least", (board, cell) -> board.least());
        return calls;
    }

    /** Those that walk over all cells, and some of the many that take one number: they make nothing. */
    private static Map<String, Call> others() {
        Map<String, Call> calls = new LinkedHashMap<>();
        calls.put("digest", (board, cell) -> board.digest() == 0 ? board : null);
        calls.put("isSound", (board, cell) -> board.isSound() ? null : board);
        calls.put("walk", (board, cell) -> board.walk(cell, -40) < 0 ? board : null);
        calls.put("rint", (board, cell) -> board.rint(cell, cell) < 0 ? board : null);
        calls.put("isBack", (board, cell) -> board.isBack(cell, -2200) ? null : board);
        calls.put("place", (board, cell) -> board.place(cell) < 0 ? board : null);
        calls.put("house", (board, cell) -> board.house(3) < 0 ? board : null);
        calls.put("bits", (board, cell) -> board.bits(cell, -1, -1) == 0 ? board : null);
        return calls;
    }

    private static void check(ThreadMXBean threads, String what, Call call, long due) {
        bytesOf(threads, call);
        long bytes = bytesOf(threads, call);
        CHECK.isTrue(what + " makes " + bytes + " bytes, due are " + due + " at most", bytes <= due + SLACK_BYTES);
        CHECK.isTrue(what + " stays within the room", bytes <= ROOM_BYTES);
    }

    private static long bytesOf(ThreadMXBean threads, Call call) {
        long self = Thread.currentThread().getId();
        long before = threads.getThreadAllocatedBytes(self);
        Exactdoubles board = new Exactdoubles();
        for (int cell = 0; cell < Boards.CELLS; cell++) {
            board.sample(cell, 3 + cell % 3, cell % 2 == 0);
        }
        for (int i = 0; i < CALLS - Boards.CELLS; i++) {
            call.on(board, i % Boards.CELLS);
        }
        return threads.getThreadAllocatedBytes(self) - before;
    }
}
