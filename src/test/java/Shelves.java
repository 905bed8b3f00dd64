import java.util.Arrays;

/** Shelves that several tests begin with, and what can be seen of a shelf. */
final class Shelves {
    static final int LOW = Integer.MIN_VALUE;
    static final int HIGH = Integer.MAX_VALUE;
    static final int LARGEST = 16384;
    static final int MOST_PLACES = 400000;
    static final int[] NO_LENGTHS = {LOW, -1, LARGEST + 1, HIGH};

    private Shelves() {
    }

    /** Rows of these lengths, numbered from 0 on, each filled with its number as the seed. */
    static ByteShelf of(int... lengths) {
        ByteShelf x = new ByteShelf();
        for (int row = 0; row < lengths.length; row++) {
            x.take(lengths[row]);
            x.fill(row, 0, lengths[row], row);
        }
        return x;
    }

    /** Rows 0 to 23 of 16384 bytes and row 24 of so many that these places are left. */
    static ByteShelf withLeft(int places) {
        int[] lengths = new int[25];
        Arrays.fill(lengths, LARGEST);
        lengths[24] = MOST_PLACES - 24 * LARGEST - places;
        return of(lengths);
    }

    /** Rows 0 to 23 of 16384 bytes and row 24 of 6784: all places are taken. */
    static ByteShelf full() {
        return withLeft(0);
    }

    /** All that can be asked of a shelf and of its rows with the numbers below a limit. */
    static String seen(ByteShelf x, int numbers) {
        StringBuilder seen = new StringBuilder();
        seen.append(x.rows()).append(" rows, ").append(x.places()).append(" places");
        for (int row = 0; row < numbers; row++) {
            seen.append("; ").append(seenRow(x, row));
        }
        return seen.toString();
    }

    static String seenRow(ByteShelf x, int row) {
        return x.size(row) + " bytes with the sum " + x.sum(row);
    }

    static String seenRow(byte[] bytes) {
        return bytes.length + " bytes with the sum " + sum(bytes);
    }

    static int sum(byte[] bytes) {
        int sum = 7;
        for (byte b : bytes) {
            sum = 31 * sum + (b & 255);
        }
        return sum;
    }

    /** What fill(row, 0, n, seed) makes of a row of n bytes. */
    static byte[] filled(int n, int seed) {
        byte[] bytes = new byte[n];
        for (int k = 0; k < n; k++) {
            // In long, so that a sum that is greater than an int is no matter of chance here.
            bytes[k] = (byte) (seed + 7L * k + k / 250);
        }
        return bytes;
    }
}
