import java.util.Arrays;

/** A shelf of rows of bytes: rows come, grow, shrink and go, and nothing of the shelf is lost. */
public final class ByteShelf {
    public static final int NONE = -1, FULL = -2;

    private static final int MOST_ROWS = 20000;
    private static final int MOST_BYTES = 16384;
    private static final int MOST_PLACES = 400000;
    private static final int PLACES_STEP = 8;
    private static final int NOT_COMPARED = -2;
    private static final int SUM_START = 7;

    private final Memory memory;
    private final Row[] table;
    private Row givenBack;
    private int made;
    private int count;

    public ByteShelf() {
        memory = new Memory();
        table = new Row[MOST_ROWS];
        givenBack = null;
        made = 0;
        count = 0;
    }

    public int take(int n) {
        if (!isLength(n)) {
            return NONE;
        }
        if (!memory.hasRoomFor(placesFor(n))) {
            return FULL;
        }
        Row taken = nextRow();
        if (taken == null) {
            return FULL;
        }
        memory.lay(taken, n);
        taken.isTaken = true;
        count++;
        return taken.number;
    }

    public boolean give(int row) {
        Row given = find(row);
        if (given == null) {
            return false;
        }
        memory.lift(given);
        given.isTaken = false;
        given.after = givenBack;
        givenBack = given;
        count--;
        return true;
    }

    public int resize(int row, int n) {
        Row changed = find(row);
        if (changed == null || !isLength(n)) {
            return NONE;
        }
        return memory.setLength(changed, n) ? n : FULL;
    }

    public boolean put(int row, int i, int b) {
        Row changed = find(row);
        if (changed == null || !hasByte(changed, i)) {
            return false;
        }
        memory.bytes[changed.start + i] = (byte) b;
        return true;
    }

    public boolean fill(int row, int i, int n, int seed) {
        Row changed = find(row);
        if (changed == null || !hasBytes(changed, i, n)) {
            return false;
        }
        byte[] bytes = memory.bytes;
        int start = changed.start + i;
        for (int k = 0; k < n; k++) {
            bytes[start + k] = (byte) (seed + 7 * k + k / 250);
        }
        return true;
    }

    public int copy(int row, int from) {
        Row changed = find(row);
        Row source = find(from);
        if (changed == null || source == null) {
            return NONE;
        }
        if (!memory.setLength(changed, source.length)) {
            return FULL;
        }
        // The starts are read only now, for making room may have moved both rows.
        System.arraycopy(memory.bytes, source.start, memory.bytes, changed.start, source.length);
        return source.length;
    }

    public int get(int row, int i) {
        Row read = find(row);
        if (read == null || !hasByte(read, i)) {
            return NONE;
        }
        return memory.bytes[read.start + i] & 255;
    }

    public int size(int row) {
        Row read = find(row);
        return read == null ? NONE : read.length;
    }

    public int compare(int row, int other) {
        Row left = find(row);
        Row right = find(other);
        if (left == null || right == null) {
            return NOT_COMPARED;
        }
        byte[] bytes = memory.bytes;
        int leftStart = left.start;
        int rightStart = right.start;
        int shared = Math.min(left.length, right.length);
        for (int i = 0; i < shared; i++) {
            if (bytes[leftStart + i] != bytes[rightStart + i]) {
                return order(bytes[leftStart + i] & 255, bytes[rightStart + i] & 255);
            }
        }
        return order(left.length, right.length);
    }

    public int sum(int row) {
        Row read = find(row);
        if (read == null) {
            return 0;
        }
        byte[] bytes = memory.bytes;
        int end = read.start + read.length;
        int total = SUM_START;
        for (int at = read.start; at < end; at++) {
            total = 31 * total + (bytes[at] & 255);
        }
        return total;
    }

    public int rows() {
        return count;
    }

    public int places() {
        return memory.occupied;
    }

    private Row find(int number) {
        if (number < 0 || number >= made) {
            return null;
        }
        Row found = table[number];
        return found != null && found.isTaken ? found : null;
    }

    private Row nextRow() {
        if (givenBack != null) {
            Row again = givenBack;
            givenBack = again.after;
            return again;
        }
        if (made >= MOST_ROWS) {
            return null;
        }
        Row fresh = new Row(made);
        table[made] = fresh;
        made++;
        return fresh;
    }

    private static boolean isLength(int n) {
        return n >= 0 && n <= MOST_BYTES;
    }

    private static boolean hasByte(Row row, int i) {
        return i >= 0 && i < row.length;
    }

    private static boolean hasBytes(Row row, int i, int n) {
        // i + n could wrap around; length - n cannot, once n is known to be no less than 0.
        return i >= 0 && n >= 0 && i <= row.length - n;
    }

    private static int order(int left, int right) {
        if (left == right) {
            return 0;
        }
        return left < right ? -1 : 1;
    }

    private static int placesFor(int n) {
        return (n + PLACES_STEP - 1) / PLACES_STEP * PLACES_STEP;
    }

    /** A row's number and where its bytes lie; it is used again when its number is. */
    private static final class Row {
        final int number;
        boolean isTaken;
        int start;
        int length;
        // A row that is taken stands in the memory's chain, one given back in the shelf's:
        // never in both, so one link serves the two.
        Row before;
        Row after;

        Row(int number) {
            this.number = number;
        }
    }

    /**
     * The bytes of all rows. New places are always cut from the end, so the chain, to whose end
     * each newly laid row goes, is in the order of the starts: what pushing together needs.
     */
    private static final class Memory {
        final byte[] bytes;
        int occupied;
        private int end;
        private Row first;
        private Row last;

        Memory() {
            bytes = new byte[MOST_PLACES];
            occupied = 0;
            end = 0;
            first = null;
            last = null;
        }

        boolean hasRoomFor(int wanted) {
            return wanted <= MOST_PLACES - occupied;
        }

        /** Gives a row that lies nowhere n bytes 0; the caller has asked hasRoomFor. */
        void lay(Row row, int n) {
            int wanted = placesFor(n);
            row.start = cut(wanted);
            row.length = n;
            occupied += wanted;
            Arrays.fill(bytes, row.start, row.start + n, (byte) 0);
            append(row);
        }

        void lift(Row row) {
            unlink(row);
            occupied -= placesFor(row.length);
        }

        /** False, and nothing is changed, when a row that grows finds no room. */
        boolean setLength(Row row, int n) {
            int old = placesFor(row.length);
            int wanted = placesFor(n);
            if (wanted > old) {
                if (!hasRoomFor(wanted)) {
                    return false;
                }
                move(row, wanted);
            }
            if (n > row.length) {
                Arrays.fill(bytes, row.start + row.length, row.start + n, (byte) 0);
            }
            row.length = n;
            occupied += wanted - old;
            return true;
        }

        private void move(Row row, int wanted) {
            int start = cut(wanted);
            System.arraycopy(bytes, row.start, bytes, start, row.length);
            row.start = start;
            unlink(row);
            append(row);
        }

        private int cut(int wanted) {
            if (wanted > MOST_PLACES - end) {
                pushTogether();
            }
            int start = end;
            end += wanted;
            return start;
        }

        private void pushTogether() {
            int to = 0;
            for (Row row = first; row != null; row = row.after) {
                if (row.start != to) {
                    System.arraycopy(bytes, row.start, bytes, to, row.length);
                    row.start = to;
                }
                to += placesFor(row.length);
            }
            end = to;
        }

        private void append(Row row) {
            row.before = last;
            row.after = null;
            if (last == null) {
                first = row;
            } else {
                last.after = row;
            }
            last = row;
        }

        private void unlink(Row row) {
            Row before = row.before;
            Row after = row.after;
            if (before == null) {
                first = after;
            } else {
                before.after = after;
            }
            if (after == null) {
                last = before;
            } else {
                after.before = before;
            }
        }
    }
}
