import com.sun.management.ThreadMXBean;
import java.lang.management.ManagementFactory;

/**
 * All calls of one run live in one room, and no call may throw in any state: the dearest calls
 * make next to nothing, and the shelf still answers far beyond the calls that are promised.
 */
public final class RoomTest {
    private static final int CALLS = 512;
    // A new array a call would be some 8 million bytes; the rows' own objects are a few thousand.
    private static final long MOST_MADE = 500_000;
    private static final Answers answers = new Answers();

    public static void main(String[] args) {
        Sentences.run(RoomTest.class, answers);
    }

    @Says("All memory is the class's own: what 512 calls make is little")
    static void dearCallsMakeLittle() {
        ThreadMXBean threads = (ThreadMXBean) ManagementFactory.getThreadMXBean();
        ByteShelf x = new ByteShelf();
        long thread = Thread.currentThread().getId();
        long before = threads.getThreadAllocatedBytes(thread);
        for (int i = 0; i < CALLS; i++) {
            dearCall(x, i);
        }
        long made = threads.getThreadAllocatedBytes(thread) - before;
        answers.due("512 dear calls made " + made + " bytes: little", made <= MOST_MADE, true);
    }

    private static void dearCall(ByteShelf x, int i) {
        int row = i / 8 % 24;
        if (i < 24) {
            x.take(15000);
            return;
        }
        switch (i % 8) {
            case 0 -> x.resize(row, 8);
            case 1 -> x.resize(row, 16384);
            case 2 -> x.fill(row, 0, 16384, i);
            case 3 -> x.copy((row + 1) % 24, row);
            case 4 -> x.compare((row + 1) % 24, row);
            case 5 -> x.sum(row);
            case 6 -> x.give(row);
            default -> x.take(15000);
        }
    }

    /** No run of 512 calls comes so far, so the document leaves these answers free. */
    @Says("There are at most 20000 rows.")
    static void twentyThousandRows() {
        ByteShelf x = new ByteShelf();
        for (int row = 0; row < 20000; row++) {
            answers.due("take(" + row % 17 + ")", x.take(row % 17), row);
        }
        answers.due("take(0) with 20000 rows", x.take(0), ByteShelf.FULL);
        answers.due("rows()", x.rows(), 20000);
        answers.due("give(20000)", x.give(20000), false);
        answers.due("give(19999)", x.give(19999), true);
        answers.due("take(1) with 19999 rows", x.take(1), 19999);
        answers.due("take(1) with 20000 rows", x.take(1), ByteShelf.FULL);
        for (int round = 0; round < 100; round++) {
            answers.due("resize to much", x.resize(round, 16384), 16384);
            answers.due("resize to little", x.resize(round, 1), 1);
        }
        answers.due("rows() at the end", x.rows(), 20000);
    }
}
