import java.util.Arrays;

/** A full shelf is pushed together: its gaps are gone, and its rows are as they were. */
public final class PushedTogetherTest {
    private static final int FULL = ByteShelf.FULL;
    private static final int LARGEST = Shelves.LARGEST;
    private static final Answers answers = new Answers();

    public static void main(String[] args) {
        Sentences.run(PushedTogetherTest.class, answers);
    }

    /** Every row from a number on (in steps) still has all that it was filled with. */
    private static void stillFilled(ByteShelf x, int from, int to, int step, int n) {
        for (int row = from; row < to; row += step) {
            answers.due("row " + row, Shelves.seenRow(x, row), Shelves.seenRow(Shelves.filled(n, row)));
        }
    }

    private static ByteShelf rowsOf(int count, int n) {
        int[] lengths = new int[count];
        Arrays.fill(lengths, n);
        return Shelves.of(lengths);
    }

    private static void takesZeros(ByteShelf x, int n, int number) {
        answers.due("take(" + n + ")", x.take(n), number);
        answers.due("its bytes", Shelves.seenRow(x, number), Shelves.seenRow(new byte[n]));
    }

    @Says("pushed together whenever it is full, so that nothing is lost: gaps of rows given back")
    static void gapsOfRowsGivenBack() {
        ByteShelf x = rowsOf(50, 7997);
        for (int row = 0; row < 50; row += 2) {
            x.give(row);
        }
        // 25 gaps of 8000 places, of which none alone has room for a row of 16384.
        for (int number = 48; number > 24; number -= 2) {
            takesZeros(x, LARGEST, number);
        }
        takesZeros(x, 200000 - 12 * LARGEST, 24);
        answers.due("places()", x.places(), 400000);
        answers.due("take(1)", x.take(1), FULL);
        stillFilled(x, 1, 50, 2, 7997);
    }

    @Says("pushed together whenever it is full, so that nothing is lost: gaps of rows cut short")
    static void gapsOfRowsCutShort() {
        ByteShelf x = rowsOf(40, 10000);
        for (int row = 0; row < 40; row++) {
            x.resize(row, row % 2 == 0 ? 9001 : 3);
        }
        int left = 400000 - 20 * 9008 - 20 * 8;
        for (int number = 40; left > 0; number++) {
            int n = Math.min(left, LARGEST);
            takesZeros(x, n, number);
            left -= n;
        }
        answers.due("places()", x.places(), 400000);
        answers.due("take(1)", x.take(1), FULL);
        for (int row = 0; row < 40; row++) {
            byte[] kept = Shelves.filled(row % 2 == 0 ? 9001 : 3, row);
            answers.due("row " + row, Shelves.seenRow(x, row), Shelves.seenRow(kept));
        }
    }

    @Says("pushed together whenever it is full, so that nothing is lost: gaps of rows that grew")
    static void gapsOfRowsThatGrew() {
        ByteShelf x = rowsOf(20, 1000);
        for (int n = 2000; n <= 16000; n += 2000) {
            for (int row = 0; row < 20; row++) {
                answers.due("resize(" + row + ", " + n + ")", x.resize(row, n), n);
            }
        }
        for (int row = 0; row < 20; row++) {
            byte[] grown = Arrays.copyOf(Shelves.filled(1000, row), 16000);
            answers.due("row " + row, Shelves.seenRow(x, row), Shelves.seenRow(grown));
        }
        answers.due("places()", x.places(), 20 * 16000);
    }

    @Says("pushed together whenever it is full, so that nothing is lost: the first and last rows")
    static void gapsAtBothEnds() {
        ByteShelf x = Shelves.full();
        x.give(0);
        takesZeros(x, LARGEST, 0);
        x.give(24);
        takesZeros(x, 6784, 24);
        x.give(0);
        x.give(24);
        takesZeros(x, 6784, 24);
        takesZeros(x, LARGEST, 0);
        answers.due("places()", x.places(), 400000);
        stillFilled(x, 1, 24, 1, LARGEST);
    }

    @Says("pushed together whenever it is full: rows without bytes between the others stay such")
    static void emptyRowsBetween() {
        ByteShelf x = new ByteShelf();
        for (int row = 0; row < 60; row += 2) {
            x.take(13000);
            x.fill(row, 0, 13000, row);
            x.take(0);
        }
        for (int row = 0; row < 40; row += 4) {
            x.resize(row, 0);
        }
        for (int number = 60; number < 68; number++) {
            takesZeros(x, LARGEST, number);
        }
        stillFilled(x, 2, 40, 4, 13000);
        stillFilled(x, 40, 60, 2, 13000);
        stillFilled(x, 1, 60, 2, 0);
        for (int row = 1; row < 20; row += 2) {
            answers.due("resize of an empty row", x.resize(row, 500), 500);
            answers.due("its bytes", Shelves.seenRow(x, row), Shelves.seenRow(new byte[500]));
        }
    }

    @Says("pushed together whenever it is full: a row keeps all its places, rounded up")
    static void rowsKeepTheirPlaces() {
        ByteShelf x = rowsOf(40, 9993);
        x.give(0);
        takesZeros(x, 9993, 0);
        for (int row = 1; row < 40; row++) {
            answers.due("resize(" + row + ", 10000)", x.resize(row, 10000), 10000);
        }
        for (int row = 1; row < 40; row++) {
            byte[] grown = Arrays.copyOf(Shelves.filled(9993, row), 10000);
            answers.due("row " + row, Shelves.seenRow(x, row), Shelves.seenRow(grown));
        }
    }

    @Says("resize: the first ones as they were, of a row that is itself pushed together")
    static void theRowThatGrowsIsMoved() {
        ByteShelf x = Shelves.full();
        x.give(0);
        x.resize(5, 4000);
        x.resize(6, 4000);
        for (int n = 4001; n < 16000; n += 500) {
            grows(x, 5, n);
            grows(x, 6, n);
        }
        stillFilled(x, 1, 5, 1, LARGEST);
        stillFilled(x, 5, 7, 1, 4000);
        stillFilled(x, 7, 24, 1, LARGEST);
    }

    private static void grows(ByteShelf x, int row, int n) {
        byte[] grown = Arrays.copyOf(Shelves.filled(4000, row), n);
        answers.due("resize(" + row + ", " + n + ")", x.resize(row, n), n);
        answers.due("row " + row, Shelves.seenRow(x, row), Shelves.seenRow(grown));
        answers.due("resize(" + row + ", 4000)", x.resize(row, 4000), 4000);
    }

    @Says("copy: a row becomes a copy of another one, while both are pushed together")
    static void copyWhileBothAreMoved() {
        for (int from = 2; from < 20; from += 7) {
            for (int row : new int[] {from - 1, from + 1}) {
                ByteShelf x = Shelves.full();
                x.give(0);
                x.resize(row, 100);
                answers.due("copy(" + row + ", " + from + ")", x.copy(row, from), LARGEST);
                byte[] copied = Shelves.filled(LARGEST, from);
                answers.due("the copy", Shelves.seenRow(x, row), Shelves.seenRow(copied));
                stillFilled(x, 1, row, 1, LARGEST);
                stillFilled(x, row + 1, 24, 1, LARGEST);
                stillFilled(x, 24, 25, 1, 6784);
            }
        }
    }

    @Says("take: a row of n bytes 0, where other rows had their bytes")
    static void takenBytesAre0WhereOthersWere() {
        ByteShelf x = Shelves.full();
        for (int row = 0; row < 24; row++) {
            x.give(row);
            takesZeros(x, LARGEST, row);
            x.fill(row, 0, LARGEST, 3);
        }
    }

    @Says("resize: new ones 0, where other rows had their bytes")
    static void grownBytesAre0WhereOthersWere() {
        ByteShelf x = Shelves.full();
        x.give(1);
        x.give(2);
        x.resize(24, 9);
        for (int n = 16384; n > 1000; n -= 900) {
            byte[] grown = Arrays.copyOf(Shelves.filled(9, 24), n);
            answers.due("resize(24, " + n + ")", x.resize(24, n), n);
            answers.due("row 24", Shelves.seenRow(x, 24), Shelves.seenRow(grown));
            x.fill(24, 9, n - 9, 5);
            x.resize(24, 9);
        }
    }
}
