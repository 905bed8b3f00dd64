import com.sun.management.ThreadMXBean;
import java.lang.management.ManagementFactory;

/**
 * All calls of one run live in one room, and no call may throw in any state: the dearest calls
 * make next to nothing, and the shelf still answers far beyond the calls that are promised.
 */
public final class RoomTest {
    private static final int CALLS = 512;
    // A new array a call would be some 8 million bytes; the rows' own objects are a few thousand.
    private static final long MOST_MADE = 500_000;

    public static void main(String[] args) {
        Answers answers = new Answers();
        dearCallsMakeLittle(answers);
        twentyThousandRows(answers);
        answers.end();
    }

    private static void dearCallsMakeLittle(Answers answers) {
        ThreadMXBean threads = (ThreadMXBean) ManagementFactory.getThreadMXBean();
        ByteShelf x = new ByteShelf();
        long thread = Thread.currentThread().getId();
        long before = threads.getThreadAllocatedBytes(thread);
        for (int i = 0; i < CALLS; i++) {
            dearCall(x, i);
        }
        long made = threads.getThreadAllocatedBytes(thread) - before;
        answers.due("512 dear calls made " + made + " bytes: little", made <= MOST_MADE, true);
    }

    private static void dearCall(ByteShelf x, int i) {
        if (i < 24) {
            x.take(15000);
        } else if (i % 3 == 0) {
            x.resize(i % 24, 16384);
        } else if (i % 3 == 1) {
            x.resize((i - 1) % 24, 8);
        } else {
            x.copy(i % 24, (i + 1) % 24);
        }
    }

    private static void twentyThousandRows(Answers answers) {
        ByteShelf x = new ByteShelf();
        for (int row = 0; row < 20000; row++) {
            answers.due("take(" + row % 17 + ")", x.take(row % 17), row);
        }
        answers.due("take(0) with 20000 rows", x.take(0), ByteShelf.FULL);
        answers.due("rows()", x.rows(), 20000);
        answers.due("give(19999)", x.give(19999), true);
        answers.due("give(20000)", x.give(20000), false);
        answers.due("take(1) with 19999 rows", x.take(1), 19999);
        for (int round = 0; round < 100; round++) {
            answers.due("resize to much", x.resize(round, 16384), 16384);
            answers.due("resize to little", x.resize(round, 1), 1);
        }
        answers.due("rows()", x.rows(), 20000);
    }
}
