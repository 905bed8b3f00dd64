/** Calls with numbers that are not as said: each is refused, and nothing is changed by it. */
public final class RefusedTest {
    private static final int NONE = ByteShelf.NONE;
    private static final int LOW = Shelves.LOW;
    private static final int HIGH = Shelves.HIGH;
    // Of the rows of the shelf that the calls are made on, 1 and 4 are given back.
    private static final int[] LENGTHS = {13, 5, 0, 16, 9};
    // The last ones would be row 0 if only their low bits were looked at.
    private static final int[] NO_ROWS = {LOW, -1, 1, 4, 5, 6, 19999, 20000, 20001, HIGH,
        1 << 8, 1 << 15, 1 << 16, 1 << 24, -(1 << 16)};
    // Row 0 has 13 bytes in 16 places: what lies between is no byte of it.
    private static final int[] NO_BYTES_OF_13 = {LOW, LOW + 1, -1, 13, 14, 15, 16, HIGH - 1, HIGH};
    private static final Answers answers = new Answers();

    private interface Call {
        long on(ByteShelf x);
    }

    public static void main(String[] args) {
        Sentences.run(RefusedTest.class, answers);
    }

    private static void refused(String name, long answer, Call call) {
        ByteShelf x = Shelves.of(LENGTHS);
        x.give(1);
        x.give(4);
        String before = Shelves.seen(x, 6);
        answers.due(name, call.on(x), answer);
        answers.due("what is seen after " + name, Shelves.seen(x, 6), before);
        for (int next : new int[] {4, 1, 5}) {
            answers.due("a number given after " + name, x.take(0), next);
        }
    }

    private static void refused(String name, Call call) {
        refused(name, 0, call);
    }

    private static long asLong(boolean answer) {
        return answer ? 1 : 0;
    }

    @Says("Calls with numbers that are not as said are refused: take")
    static void take() {
        for (int n : Shelves.NO_LENGTHS) {
            refused("take(" + n + ")", NONE, x -> x.take(n));
        }
    }

    @Says("Calls with numbers that are not as said are refused: give")
    static void give() {
        for (int row : NO_ROWS) {
            refused("give(" + row + ")", x -> asLong(x.give(row)));
        }
    }

    @Says("Calls with numbers that are not as said are refused: resize")
    static void resize() {
        for (int row : NO_ROWS) {
            refused("resize(" + row + ", 3)", NONE, x -> x.resize(row, 3));
            refused("resize(" + row + ", 0)", NONE, x -> x.resize(row, 0));
        }
        for (int n : Shelves.NO_LENGTHS) {
            refused("resize(0, " + n + ")", NONE, x -> x.resize(0, n));
            refused("resize(1, " + n + ")", NONE, x -> x.resize(1, n));
        }
    }

    @Says("Calls with numbers that are not as said are refused: put")
    static void put() {
        for (int row : NO_ROWS) {
            refused("put(" + row + ", 0, 9)", x -> asLong(x.put(row, 0, 9)));
        }
        for (int i : NO_BYTES_OF_13) {
            refused("put(0, " + i + ", 9)", x -> asLong(x.put(0, i, 9)));
        }
        refused("put(2, 0, 9), an empty row", x -> asLong(x.put(2, 0, 9)));
        refused("put(3, 16, 9), a row as long as its places", x -> asLong(x.put(3, 16, 9)));
    }

    @Says("Calls with numbers that are not as said are refused: fill of no row")
    static void fillOfNoRow() {
        for (int row : NO_ROWS) {
            refused("fill(" + row + ", 0, 1, 9)", x -> asLong(x.fill(row, 0, 1, 9)));
            refused("fill(" + row + ", 0, 0, 9)", x -> asLong(x.fill(row, 0, 0, 9)));
        }
    }

    @Says("Calls with numbers that are not as said are refused: fill of bytes that are none")
    static void fillOfNoBytes() {
        for (int i : NO_BYTES_OF_13) {
            refusedFill(0, i, 1);
        }
        int[] begins = {0, 1, 12};
        for (int i : begins) {
            refusedFill(0, i, 14 - i);
            refusedFill(0, i, 16 - i);
            refusedFill(0, i, HIGH - i);
            refusedFill(0, i, HIGH);
            refusedFill(0, i, -1);
            refusedFill(0, i, -i - 1);
            refusedFill(0, i, LOW);
        }
        refusedFill(2, 0, 1);
        refusedFill(3, 0, 17);
        refusedFill(3, 16, 1);
    }

    @Says("Calls with numbers that are not as said are refused: fill whose end seems to fit")
    static void fillThatBeginsOutside() {
        refusedFill(0, -1, 0);
        refusedFill(0, -1, 2);
        refusedFill(0, -1, 14);
        refusedFill(0, -3, 16);
        refusedFill(0, LOW, 0);
        refusedFill(0, LOW, HIGH);
        refusedFill(0, LOW, LOW);
        refusedFill(0, 14, 0);
        refusedFill(0, 14, -1);
        refusedFill(0, 20, -10);
        refusedFill(0, HIGH, 0);
        refusedFill(0, HIGH, -HIGH);
        refusedFill(0, HIGH, HIGH);
        refusedFill(0, HIGH, LOW);
        refusedFill(2, 1, 0);
        refusedFill(2, 1, -1);
    }

    private static void refusedFill(int row, int i, int n) {
        refused("fill(" + row + ", " + i + ", " + n + ", 9)", x -> asLong(x.fill(row, i, n, 9)));
    }

    @Says("Calls with numbers that are not as said are refused: copy")
    static void copy() {
        for (int row : NO_ROWS) {
            refused("copy(" + row + ", 0)", NONE, x -> x.copy(row, 0));
            refused("copy(0, " + row + ")", NONE, x -> x.copy(0, row));
            refused("copy(" + row + ", " + row + ")", NONE, x -> x.copy(row, row));
        }
        refused("copy(1, 4)", NONE, x -> x.copy(1, 4));
    }

    @Says("Calls with numbers that are not as said are refused: get")
    static void get() {
        for (int row : NO_ROWS) {
            refused("get(" + row + ", 0)", NONE, x -> x.get(row, 0));
        }
        for (int i : NO_BYTES_OF_13) {
            refused("get(0, " + i + ")", NONE, x -> x.get(0, i));
        }
        refused("get(2, 0), an empty row", NONE, x -> x.get(2, 0));
        refused("get(3, 16), a row as long as its places", NONE, x -> x.get(3, 16));
    }

    @Says("Calls with numbers that are not as said are refused: size")
    static void size() {
        for (int row : NO_ROWS) {
            refused("size(" + row + ")", NONE, x -> x.size(row));
        }
    }

    @Says("-2 when one is none")
    static void compare() {
        for (int row : NO_ROWS) {
            refused("compare(" + row + ", 0)", -2, x -> x.compare(row, 0));
            refused("compare(0, " + row + ")", -2, x -> x.compare(0, row));
            refused("compare(" + row + ", " + row + ")", -2, x -> x.compare(row, row));
        }
        refused("compare(1, 4)", -2, x -> x.compare(1, 4));
    }

    @Says("0 when there is none")
    static void sum() {
        for (int row : NO_ROWS) {
            refused("sum(" + row + ")", x -> x.sum(row));
        }
    }

    /** The document does not say which answer is due; this is what its words say most plainly. */
    @Says("Calls with numbers that are not as said are refused: on a full shelf NONE, not FULL")
    static void onAFullShelf() {
        ByteShelf x = Shelves.full();
        String before = Shelves.seen(x, 26);
        for (int n : Shelves.NO_LENGTHS) {
            answers.due("take(" + n + ")", x.take(n), NONE);
            answers.due("resize(24, " + n + ")", x.resize(24, n), NONE);
            answers.due("resize(25, " + n + ")", x.resize(25, n), NONE);
        }
        answers.due("resize(25, 16384)", x.resize(25, 16384), NONE);
        answers.due("copy(25, 0)", x.copy(25, 0), NONE);
        answers.due("copy(24, 25)", x.copy(24, 25), NONE);
        answers.due("give(25)", x.give(25), false);
        answers.due("what is seen then", Shelves.seen(x, 26), before);
    }
}
