import java.util.Arrays;

/** Each promise of the document: ordinary inputs, and the boundaries that are its own. */
public final class PromisesTest {
    private static final int NONE = ByteShelf.NONE;
    private static final int FULL = ByteShelf.FULL;
    private static final int LOW = Shelves.LOW;
    private static final int HIGH = Shelves.HIGH;
    private static final int LARGEST = Shelves.LARGEST;
    private static final Answers answers = new Answers();

    public static void main(String[] args) {
        Sentences.run(PromisesTest.class, answers);
    }

    private static void rowIs(String call, ByteShelf x, int row, byte[] want) {
        answers.due(call + ": row " + row, Shelves.seenRow(x, row), Shelves.seenRow(want));
    }

    private static byte[] bytes(int... numbers) {
        byte[] bytes = new byte[numbers.length];
        for (int i = 0; i < numbers.length; i++) {
            bytes[i] = (byte) numbers[i];
        }
        return bytes;
    }

    @Says("Promise 1: No rows.")
    static void promise01NoRows() {
        ByteShelf x = new ByteShelf();
        answers.due("rows()", x.rows(), 0);
        answers.due("places()", x.places(), 0);
        for (int row : new int[] {LOW, -1, 0, 1, 19999, 20000, HIGH}) {
            answers.due("size(" + row + ")", x.size(row), NONE);
            answers.due("give(" + row + ")", x.give(row), false);
            answers.due("sum(" + row + ")", x.sum(row), 0);
            answers.due("compare(" + row + ", " + row + ")", x.compare(row, row), -2);
        }
        answers.due("the first number", x.take(1), 0);
    }

    @Says("Promise 1: No rows. Also when another object has some")
    static void promise01EachObject() {
        ByteShelf used = Shelves.full();
        used.give(3);
        ByteShelf x = new ByteShelf();
        answers.due("what is seen", Shelves.seen(x, 2), Shelves.seen(new ByteShelf(), 2));
        answers.due("take(16384)", x.take(LARGEST), 0);
    }

    @Says("Promise 2: A row of n bytes 0")
    static void promise02BytesAre0() {
        ByteShelf x = new ByteShelf();
        int[] lengths = {3, 0, 1, 7, 8, 9, 16383, 16384};
        for (int row = 0; row < lengths.length; row++) {
            x.take(lengths[row]);
            rowIs("take(" + lengths[row] + ")", x, row, new byte[lengths[row]]);
        }
        for (int i = 0; i < 3; i++) {
            answers.due("get(0, " + i + ")", x.get(0, i), 0);
        }
    }

    @Says("Promise 2: A row of n bytes 0. Also when its number had other bytes before")
    static void promise02BytesAre0Again() {
        ByteShelf x = Shelves.of(20, 20, 20);
        x.give(1);
        x.take(24);
        rowIs("a longer one", x, 1, new byte[24]);
        x.fill(1, 0, 24, 5);
        x.give(1);
        x.take(10);
        rowIs("a shorter one", x, 1, new byte[10]);
        x.resize(1, 24);
        rowIs("a shorter one, grown", x, 1, new byte[24]);
    }

    @Says("Promise 2: its number; FULL")
    static void promise02Answers() {
        ByteShelf x = new ByteShelf();
        for (int row = 0; row < 24; row++) {
            answers.due("take(16384)", x.take(LARGEST), row);
        }
        answers.due("take(16384) without room", x.take(LARGEST), FULL);
        answers.due("rows()", x.rows(), 24);
        answers.due("places()", x.places(), 24 * LARGEST);
        answers.due("size(24)", x.size(24), NONE);
        answers.due("take(5)", x.take(5), 24);
    }

    @Says("Promise 3: A row is given back.")
    static void promise03Give() {
        ByteShelf x = Shelves.of(5, 20, 0);
        answers.due("give(0)", x.give(0), true);
        answers.due("size(0)", x.size(0), NONE);
        answers.due("rows()", x.rows(), 2);
        answers.due("places()", x.places(), 24);
        rowIs("give(0)", x, 1, Shelves.filled(20, 1));
        answers.due("give of an empty row", x.give(2), true);
        answers.due("rows() then", x.rows(), 1);
        answers.due("give of the last one", x.give(1), true);
        answers.due("rows() at last", x.rows(), 0);
        answers.due("places() at last", x.places(), 0);
    }

    @Says("Promise 3: A row is given back. Not twice, and not one that there is not")
    static void promise03GiveRefused() {
        ByteShelf x = Shelves.of(5, 20);
        answers.due("give(0)", x.give(0), true);
        for (int row : new int[] {0, 2, -1, LOW, HIGH}) {
            answers.due("give(" + row + ")", x.give(row), false);
        }
        answers.due("rows()", x.rows(), 1);
        answers.due("places()", x.places(), 24);
        answers.due("give of one taken again", x.give(x.take(1)), true);
    }

    @Says("Promise 4: A row has n bytes from now on ..: n")
    static void promise04Lengths() {
        ByteShelf x = Shelves.of(10, 10);
        for (int n : new int[] {11, 16, 17, 8, 7, 1, 0, 16384, 16383, 0, 0, 5, 5}) {
            answers.due("resize(0, " + n + ")", x.resize(0, n), n);
            answers.due("size(0)", x.size(0), n);
            answers.due("places()", x.places(), (n + 7) / 8 * 8 + 16);
            answers.due("get beyond the end", x.get(0, n), NONE);
            rowIs("the other one", x, 1, Shelves.filled(10, 1));
        }
        answers.due("rows()", x.rows(), 2);
    }

    @Says("Promise 4: the first ones as they were")
    static void promise04FirstOnesStay() {
        for (int old = 1; old <= 17; old++) {
            for (int n = 0; n <= 33; n++) {
                ByteShelf x = Shelves.of(old, 3);
                x.fill(0, 0, old, 200);
                x.resize(0, n);
                byte[] want = Arrays.copyOf(Shelves.filled(old, 200), n);
                rowIs("resize(0, " + n + ") from " + old, x, 0, want);
                rowIs("resize(0, " + n + ") from " + old, x, 1, Shelves.filled(3, 1));
            }
        }
    }

    @Says("Promise 4: the first ones as they were, of the longest row, too")
    static void promise04LongestRow() {
        ByteShelf x = Shelves.of(16383);
        x.resize(0, 16384);
        rowIs("grown by one", x, 0, Arrays.copyOf(Shelves.filled(16383, 0), 16384));
        x.put(0, 16383, 9);
        x.resize(0, 16383);
        rowIs("cut by one", x, 0, Shelves.filled(16383, 0));
        x.resize(0, 16384);
        answers.due("the new byte", x.get(0, 16383), 0);
    }

    @Says("Promise 4: new ones 0, where bytes were cut off in the row's places")
    static void promise04CutOffInItsPlaces() {
        for (int n = 0; n <= 8; n++) {
            cutAndGrown(8, n);
        }
    }

    @Says("Promise 4: new ones 0, where bytes were cut off beyond the row's places")
    static void promise04CutOffBeyond() {
        for (int n : new int[] {0, 1, 8, 9, 39}) {
            cutAndGrown(40, n);
        }
    }

    private static void cutAndGrown(int length, int n) {
        ByteShelf x = new ByteShelf();
        x.take(length);
        x.fill(0, 0, length, 1);
        x.resize(0, n);
        x.resize(0, length);
        rowIs("cut to " + n, x, 0, Arrays.copyOf(Shelves.filled(n, 1), length));
    }

    @Says("Promise 4: FULL (it stays as it was)")
    static void promise04Full() {
        ByteShelf x = Shelves.full();
        String before = Shelves.seen(x, 25);
        answers.due("resize(24, 6785)", x.resize(24, 6785), FULL);
        answers.due("resize(24, 16384)", x.resize(24, LARGEST), FULL);
        answers.due("what is seen then", Shelves.seen(x, 25), before);
        answers.due("put its last byte", x.put(24, 6783, 1), true);
        answers.due("put a byte beyond", x.put(24, 6784, 1), false);
    }

    @Says("Promise 5: Byte i of a row becomes ..")
    static void promise05Put() {
        ByteShelf x = Shelves.of(8, 8, 8);
        byte[] want = Shelves.filled(8, 1);
        for (int i = 7; i >= 0; i--) {
            answers.due("put(1, " + i + ", 99)", x.put(1, i, 99), true);
            want[i] = 99;
            rowIs("put(1, " + i + ", 99)", x, 1, want);
        }
        rowIs("the row before", x, 0, Shelves.filled(8, 0));
        rowIs("the row behind", x, 2, Shelves.filled(8, 2));
    }

    @Says("Promise 5: the lowest eight bits of a number")
    static void promise05LowestEightBits() {
        ByteShelf x = Shelves.of(1);
        int[] numbers = {0, 1, 127, 128, 255, 256, 511, -1, -128, -129, -256, 0x12345678, LOW, HIGH};
        for (int b : numbers) {
            answers.due("put(0, 0, " + b + ")", x.put(0, 0, b), true);
            answers.due("get after put(0, 0, " + b + ")", x.get(0, 0), Math.floorMod(b, 256));
        }
    }

    @Says("Promise 5: Byte i of a row: the first to the last, none beyond")
    static void promise05Edges() {
        for (int n : new int[] {0, 1, 7, 8, 13, 16384}) {
            ByteShelf x = Shelves.of(n, 4);
            for (int i : new int[] {LOW, -1, 0, n - 1, n, n + 1, LARGEST, 400000, HIGH}) {
                answers.due("put(0, " + i + ", 1) of " + n, x.put(0, i, 1), i >= 0 && i < n);
            }
            rowIs("the row behind", x, 1, Shelves.filled(4, 1));
        }
    }

    @Says("Promise 6: Bytes i to i + n - 1 of a row become: byte i + k .. seed + 7 * k + k / 250")
    static void promise06Fill() {
        ByteShelf x = new ByteShelf();
        x.take(5);
        answers.due("fill(0, 0, 5, 3)", x.fill(0, 0, 5, 3), true);
        rowIs("fill(0, 0, 5, 3)", x, 0, bytes(3, 10, 17, 24, 31));
        answers.due("fill(0, 1, 3, 100)", x.fill(0, 1, 3, 100), true);
        rowIs("fill(0, 1, 3, 100)", x, 0, bytes(3, 100, 107, 114, 31));
        answers.due("fill(0, 4, 1, 77)", x.fill(0, 4, 1, 77), true);
        rowIs("fill(0, 4, 1, 77)", x, 0, bytes(3, 100, 107, 114, 77));
    }

    @Says("Promise 6: the lowest eight bits, of a number that wraps around, too")
    static void promise06LowestEightBits() {
        for (int seed : new int[] {5, 250, 255, 256, -1, -7, -1000, LOW, HIGH, HIGH - 699}) {
            ByteShelf x = new ByteShelf();
            x.take(1000);
            answers.due("fill(0, 0, 1000, " + seed + ")", x.fill(0, 0, 1000, seed), true);
            rowIs("fill(0, 0, 1000, " + seed + ")", x, 0, Shelves.filled(1000, seed));
        }
    }

    @Says("Promise 6: k / 250, with k from 0 on wherever i is")
    static void promise06Steps() {
        for (int i : new int[] {0, 1, 249, 250}) {
            ByteShelf x = new ByteShelf();
            x.take(16384);
            x.fill(0, i, 16384 - i, 0);
            answers.due("k = 0, i = " + i, x.get(0, i), 0);
            answers.due("k = 249, i = " + i, x.get(0, i + 249), 1743 % 256);
            answers.due("k = 250, i = " + i, x.get(0, i + 250), 1751 % 256);
            answers.due("k = 499, i = " + i, x.get(0, i + 499), 3494 % 256);
            answers.due("k = 500, i = " + i, x.get(0, i + 500), 3502 % 256);
            answers.due("k = 16133, i = " + i, x.get(0, i + 16133), (112931 + 64) % 256);
        }
    }

    @Says("Promise 6: Bytes i to i + n - 1: these, and no others")
    static void promise06NoOtherBytes() {
        for (int i = 0; i <= 16; i++) {
            for (int n = 0; n <= 17; n++) {
                ByteShelf x = new ByteShelf();
                x.take(8);
                x.take(16);
                x.take(8);
                byte[] want = new byte[16];
                boolean fits = i + n <= 16;
                if (fits) {
                    System.arraycopy(Shelves.filled(n, 200), 0, want, i, n);
                }
                String call = "fill(1, " + i + ", " + n + ", 200)";
                answers.due(call, x.fill(1, i, n, 200), fits);
                rowIs(call, x, 0, new byte[8]);
                rowIs(call, x, 1, want);
                rowIs(call, x, 2, new byte[8]);
            }
        }
    }

    /** The document names no least n; without bytes that are none of the row, it is as said. */
    @Says("Promise 6: Bytes i to i + n - 1: none, when n is 0")
    static void promise06FillOfNone() {
        ByteShelf x = Shelves.of(10, 0);
        answers.due("at the beginning", x.fill(0, 0, 0, 1), true);
        answers.due("inside", x.fill(0, 3, 0, 1), true);
        answers.due("at the end", x.fill(0, 10, 0, 1), true);
        answers.due("of an empty row", x.fill(1, 0, 0, 1), true);
        answers.due("beyond the end", x.fill(0, 11, 0, 1), false);
        answers.due("before the beginning", x.fill(0, -1, 0, 1), false);
        answers.due("beyond an empty row", x.fill(1, 1, 0, 1), false);
        rowIs("fill of none", x, 0, Shelves.filled(10, 0));
    }

    @Says("Promise 7: A row becomes a copy of another one ..: how many bytes it has then")
    static void promise07Copy() {
        int[] lengths = {0, 1, 5, 8, 9, 30, 16383, 16384};
        for (int n : lengths) {
            for (int from : lengths) {
                ByteShelf x = Shelves.of(n, from, 11);
                String call = "copy(0, 1), " + n + " and " + from + " bytes";
                answers.due(call, x.copy(0, 1), from);
                rowIs(call, x, 0, Shelves.filled(from, 1));
                rowIs(call, x, 1, Shelves.filled(from, 1));
                rowIs(call, x, 2, Shelves.filled(11, 2));
                answers.due(call + ": rows()", x.rows(), 3);
                answers.due(call + ": places()", x.places(), (from + 7) / 8 * 16 + 16);
            }
        }
    }

    @Says("Promise 7: (or itself)")
    static void promise07CopyOfItself() {
        ByteShelf x = Shelves.of(30, 0, LARGEST);
        String before = Shelves.seen(x, 4);
        answers.due("copy(0, 0)", x.copy(0, 0), 30);
        answers.due("copy(1, 1)", x.copy(1, 1), 0);
        answers.due("copy(2, 2)", x.copy(2, 2), LARGEST);
        answers.due("what is seen then", Shelves.seen(x, 4), before);
    }

    @Says("Promise 7: A row becomes a copy: what one is later, the other is not")
    static void promise07CopyIsApart() {
        ByteShelf x = Shelves.of(12, 30);
        x.copy(0, 1);
        x.put(0, 29, 200);
        rowIs("put in the copy", x, 1, Shelves.filled(30, 1));
        x.copy(0, 1);
        x.fill(1, 0, 30, 200);
        rowIs("fill of the other", x, 0, Shelves.filled(30, 1));
        x.give(1);
        rowIs("give of the other", x, 0, Shelves.filled(30, 1));
    }

    @Says("Promise 7: FULL (it stays as it was)")
    static void promise07Full() {
        ByteShelf x = Shelves.full();
        String before = Shelves.seen(x, 25);
        answers.due("copy(24, 0)", x.copy(24, 0), FULL);
        answers.due("what is seen then", Shelves.seen(x, 25), before);
        x.take(0);
        answers.due("copy to an empty row", x.copy(25, 24), FULL);
        answers.due("the empty row", x.size(25), 0);
    }

    @Says("Promise 8: Byte i of a row, 0 .. 255.")
    static void promise08Get() {
        ByteShelf x = Shelves.of(8, 2);
        // Not all 256: a put and a get for each would be more calls than an object is used for.
        for (int b = 0; b < 256; b += b == 4 ? 120 : 1) {
            x.put(1, 1, b);
            answers.due("get of " + b, x.get(1, 1), b);
        }
        answers.due("the byte before", x.get(1, 0), 1);
        answers.due("byte 1 of the row before", x.get(0, 1), 7);
    }

    @Says("Promise 8: Byte i of a row: the first to the last, none beyond")
    static void promise08Edges() {
        for (int n : new int[] {0, 1, 7, 8, 13, 16384}) {
            ByteShelf x = new ByteShelf();
            x.take(n);
            x.take(8);
            x.fill(0, 0, n, 50);
            x.fill(1, 0, 8, 90);
            byte[] want = Shelves.filled(n, 50);
            for (int i : new int[] {LOW, -1, 0, n - 1, n, n + 1, LARGEST, 400000, HIGH}) {
                int due = i >= 0 && i < n ? want[i] & 255 : NONE;
                answers.due("get(0, " + i + ") of " + n, x.get(0, i), due);
            }
        }
    }

    @Says("Promise 9: How many bytes a row has.")
    static void promise09Size() {
        ByteShelf x = new ByteShelf();
        for (int n : new int[] {0, 1, 7, 8, 9, 16383, 16384}) {
            int row = x.take(n);
            answers.due("size after take(" + n + ")", x.size(row), n);
        }
        x.resize(0, 12);
        answers.due("size after resize", x.size(0), 12);
        x.copy(1, 0);
        answers.due("size after copy", x.size(1), 12);
        x.give(3);
        answers.due("size of a row given back", x.size(3), NONE);
        x.take(2);
        answers.due("size of one taken again", x.size(3), 2);
        answers.due("size(7)", x.size(7), NONE);
        answers.due("size(-1)", x.size(-1), NONE);
    }

    @Says("Promise 10: Which of two rows comes first, by their bytes: -1, 0 or 1")
    static void promise10ByTheirBytes() {
        compared(0, bytes(1, 2, 3), bytes(1, 2, 3));
        compared(-1, bytes(1, 2, 3), bytes(1, 2, 4));
        compared(-1, bytes(1, 2, 3), bytes(9, 2, 3));
        compared(-1, bytes(1, 9, 9), bytes(2, 0, 0));
        compared(-1, bytes(0), bytes(200));
    }

    @Says("Promise 10: by their bytes (0 .. 255)")
    static void promise10BytesAreNotNegative() {
        compared(-1, bytes(127), bytes(128));
        compared(-1, bytes(0), bytes(255));
        compared(-1, bytes(5, 1), bytes(5, 254));
        compared(-1, bytes(200), bytes(201));
        compared(0, bytes(255, 128), bytes(255, 128));
    }

    @Says("Promise 10: a shorter one that another one begins with first")
    static void promise10Shorter() {
        compared(-1, bytes(1, 2, 3), bytes(1, 2, 3, 0));
        compared(-1, bytes(1, 2, 3, 4, 5, 6, 7), bytes(1, 2, 3, 4, 5, 6, 7, 0));
        compared(-1, bytes(0), bytes(0, 0, 0, 0, 0, 0, 0, 0, 0));
        compared(1, bytes(9), bytes(1, 2, 3));
        compared(1, bytes(1, 3), bytes(1, 2, 3, 4));
        compared(-1, bytes(1, 2), bytes(1, 3, 3, 4));
    }

    @Says("Promise 10: a shorter one that another one begins with first: an empty one")
    static void promise10Empty() {
        compared(0, bytes(), bytes());
        compared(-1, bytes(), bytes(0));
        compared(-1, bytes(), bytes(255, 1));
    }

    @Says("Promise 10: 0, of a row and itself")
    static void promise10Itself() {
        ByteShelf x = Shelves.of(0, 9, LARGEST);
        for (int row = 0; row < 3; row++) {
            answers.due("compare(" + row + ", " + row + ")", x.compare(row, row), 0);
        }
    }

    @Says("Promise 10: Which of two rows comes first: the longest, by their last byte")
    static void promise10Longest() {
        ByteShelf x = Shelves.of(LARGEST, 0);
        x.copy(1, 0);
        answers.due("a copy", x.compare(0, 1), 0);
        x.put(0, LARGEST - 1, 128);
        x.put(1, LARGEST - 1, 127);
        answers.due("128 and 127", x.compare(0, 1), 1);
        answers.due("127 and 128", x.compare(1, 0), -1);
        x.resize(0, LARGEST - 1);
        answers.due("one byte fewer", x.compare(0, 1), -1);
    }

    private static void compared(int want, byte[] left, byte[] right) {
        ByteShelf x = new ByteShelf();
        x.take(left.length);
        x.take(right.length);
        for (int i = 0; i < left.length; i++) {
            x.put(0, i, left[i]);
        }
        for (int i = 0; i < right.length; i++) {
            x.put(1, i, right[i]);
        }
        String rows = Arrays.toString(left) + " and " + Arrays.toString(right);
        answers.due("compare(0, 1), " + rows, x.compare(0, 1), want);
        answers.due("compare(1, 0), " + rows, x.compare(1, 0), -want);
    }

    @Says("Promise 11: The sum of all bytes of a row, from 7 on, each time 31 times what there is")
    static void promise11Sum() {
        ByteShelf x = new ByteShelf();
        x.take(2);
        x.put(0, 0, 3);
        x.put(0, 1, 4);
        answers.due("sum of 3, 4", x.sum(0), (7 * 31 + 3) * 31 + 4);
        x.take(3);
        answers.due("sum of three bytes 0", x.sum(1), 7 * 31 * 31 * 31);
        x.resize(0, 1);
        answers.due("sum of 3", x.sum(0), 7 * 31 + 3);
    }

    @Says("Promise 11: The sum of all bytes of a row, from 7 on: of an empty row")
    static void promise11Empty() {
        ByteShelf x = Shelves.of(0, 9);
        answers.due("sum of an empty row", x.sum(0), 7);
        x.resize(1, 0);
        answers.due("sum of one that was cut to none", x.sum(1), 7);
    }

    @Says("Promise 11: and the byte (as an int)")
    static void promise11BytesAreNotNegative() {
        ByteShelf x = new ByteShelf();
        x.take(1);
        for (int b : new int[] {0, 127, 128, 255}) {
            x.put(0, 0, b);
            answers.due("sum of " + b, x.sum(0), 7 * 31 + b);
        }
    }

    @Says("Promise 11: The sum of all bytes of a row wraps around")
    static void promise11WrapsAround() {
        ByteShelf x = new ByteShelf();
        x.take(6);
        for (int i = 0; i < 6; i++) {
            x.put(0, i, 255);
        }
        answers.due("sum of six bytes 255", x.sum(0), (int) 13756307047L);
        x.take(LARGEST);
        x.fill(1, 0, LARGEST, 77);
        rowIs("the longest row", x, 1, Shelves.filled(LARGEST, 77));
    }

    @Says("Promise 11: 0 when there is none")
    static void promise11None() {
        ByteShelf x = Shelves.of(4, 4);
        x.give(0);
        for (int row : new int[] {LOW, -1, 0, 2, 20000, HIGH}) {
            answers.due("sum(" + row + ")", x.sum(row), 0);
        }
    }

    @Says("Promise 12: How many rows there are.")
    static void promise12Rows() {
        ByteShelf x = new ByteShelf();
        for (int row = 0; row < 100; row++) {
            x.take(row % 3);
            answers.due("rows()", x.rows(), row + 1);
        }
        for (int row = 0; row < 100; row += 2) {
            x.give(row);
            answers.due("rows() after give", x.rows(), 99 - row / 2);
        }
    }

    @Says("Promise 12: How many rows there are: as many, after calls that neither take nor give")
    static void promise12RowsStay() {
        ByteShelf x = Shelves.full();
        x.take(1);
        answers.due("rows() after a take that is FULL", x.rows(), 25);
        x.take(-1);
        x.take(LARGEST + 1);
        x.give(25);
        x.give(-1);
        answers.due("rows() after calls that are refused", x.rows(), 25);
        x.resize(1, 0);
        x.resize(2, 100);
        x.copy(3, 1);
        x.fill(4, 0, 9, 1);
        x.put(4, 0, 1);
        answers.due("rows() after changes", x.rows(), 25);
    }

    @Says("Promise 13: How many places they take.")
    static void promise13Places() {
        ByteShelf x = Shelves.of(1, 8, 9, 0, LARGEST);
        answers.due("places()", x.places(), 8 + 8 + 16 + LARGEST);
        x.resize(4, 20);
        answers.due("places() after resize", x.places(), 8 + 8 + 16 + 24);
        x.copy(0, 4);
        answers.due("places() after copy", x.places(), 24 + 8 + 16 + 24);
        x.give(2);
        answers.due("places() after give", x.places(), 24 + 8 + 24);
        x.take(33);
        answers.due("places() after take", x.places(), 24 + 8 + 40 + 24);
    }

    @Says("Promise 13: How many places they take: from none to all")
    static void promise13NoneAndAll() {
        ByteShelf x = Shelves.full();
        answers.due("places() of a full shelf", x.places(), 400000);
        for (int row = 0; row < 25; row++) {
            x.give(row);
        }
        answers.due("places() when all are given back", x.places(), 0);
        x.take(0);
        answers.due("places() of an empty row", x.places(), 0);
    }
}
