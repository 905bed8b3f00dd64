/** Each promise of the document: ordinary inputs, the edges that it names, wrong inputs. */
public final class PromisesTest {
    private static final int LOW = Integer.MIN_VALUE;
    private static final int HIGH = Integer.MAX_VALUE;
    private static final Answers answers = new Answers();

    public static void main(String[] args) {
        promise1NewObject();
        promise2Take();
        promise2TakeWhenFull();
        promise3Give();
        promise3NumbersComeBackLastFirst();
        promise4Resize();
        promise4ResizeWhenFull();
        promise4ResizeClearsWhatWasCutOff();
        promise5Put();
        promise6Fill();
        promise6FillRefused();
        promise7Copy();
        promise7CopyWhenFull();
        promise8Get();
        promise9Size();
        promise10Compare();
        promise11Sum();
        promise12Rows();
        promise13Places();
        placesUsedBeforeAreCleared();
        pushingTogetherKeepsEveryRow();
        pushingTogetherMovesTheRowThatGrows();
        objectsShareNothing();
        answers.end();
    }

    private static void promise1NewObject() {
        ByteShelf x = new ByteShelf();
        answers.due("new: rows()", x.rows(), 0);
        answers.due("new: places()", x.places(), 0);
        for (int row : new int[] {LOW, -1, 0, 1, 19999, 20000, HIGH}) {
            noSuchRow(x, row);
        }
    }

    private static void noSuchRow(ByteShelf x, int row) {
        String at = "no row " + row + ": ";
        int rows = x.rows();
        int places = x.places();
        answers.due(at + "give", x.give(row), false);
        answers.due(at + "resize", x.resize(row, 1), ByteShelf.NONE);
        answers.due(at + "put", x.put(row, 0, 1), false);
        answers.due(at + "fill", x.fill(row, 0, 1, 1), false);
        answers.due(at + "fill of none", x.fill(row, 0, 0, 1), false);
        answers.due(at + "copy", x.copy(row, row), ByteShelf.NONE);
        answers.due(at + "get", x.get(row, 0), ByteShelf.NONE);
        answers.due(at + "size", x.size(row), ByteShelf.NONE);
        answers.due(at + "compare", x.compare(row, row), -2);
        answers.due(at + "sum", x.sum(row), 0);
        answers.due(at + "rows", x.rows(), rows);
        answers.due(at + "places", x.places(), places);
    }

    private static void promise2Take() {
        ByteShelf x = new ByteShelf();
        answers.due("take(3)", x.take(3), 0);
        answers.due("take(0)", x.take(0), 1);
        answers.due("take(16384)", x.take(16384), 2);
        for (int n : new int[] {LOW, -1, 16385, HIGH}) {
            answers.due("take(" + n + ")", x.take(n), ByteShelf.NONE);
        }
        answers.due("take: rows()", x.rows(), 3);
        answers.due("take: places()", x.places(), 8 + 16384);
        for (int i = 0; i < 3; i++) {
            answers.due("take: byte " + i, x.get(0, i), 0);
        }
        answers.due("take: last byte", x.get(2, 16383), 0);
        answers.due("take after the refused ones", x.take(1), 3);
    }

    private static void promise2TakeWhenFull() {
        ByteShelf x = fullShelf();
        answers.due("full: places()", x.places(), 400000);
        answers.due("full: take(1)", x.take(1), ByteShelf.FULL);
        answers.due("full: take(16384)", x.take(16384), ByteShelf.FULL);
        answers.due("full: take(-1)", x.take(-1), ByteShelf.NONE);
        answers.due("full: take(16385)", x.take(16385), ByteShelf.NONE);
        answers.due("full: rows()", x.rows(), 25);
        answers.due("full: take(0)", x.take(0), 25);
        answers.due("full: resize(24, 6776)", x.resize(24, 6776), 6776);
        answers.due("8 left: take(9)", x.take(9), ByteShelf.FULL);
        answers.due("8 left: take(8)", x.take(8), 26);
        answers.due("full again: take(1)", x.take(1), ByteShelf.FULL);
    }

    /** Rows 0 to 23 of 16384 bytes and row 24 of 6784: 400000 places. */
    private static ByteShelf fullShelf() {
        ByteShelf x = new ByteShelf();
        for (int row = 0; row < 24; row++) {
            answers.due("take to be full", x.take(16384), row);
        }
        answers.due("take to be full", x.take(6784), 24);
        return x;
    }

    private static void promise3Give() {
        ByteShelf x = new ByteShelf();
        x.take(5);
        x.take(20);
        x.fill(0, 0, 5, 1);
        x.fill(1, 0, 20, 9);
        int kept = x.sum(1);
        answers.due("give(2)", x.give(2), false);
        answers.due("give(-1)", x.give(-1), false);
        answers.due("give(0)", x.give(0), true);
        noSuchRow(x, 0);
        answers.due("give: rows()", x.rows(), 1);
        answers.due("give: places()", x.places(), 24);
        answers.due("give: the other row", x.sum(1), kept);
        answers.due("give: compare(0, 1)", x.compare(0, 1), -2);
        answers.due("give: compare(1, 0)", x.compare(1, 0), -2);
        answers.due("give: copy(1, 0)", x.copy(1, 0), ByteShelf.NONE);
        answers.due("give: copy(0, 1)", x.copy(0, 1), ByteShelf.NONE);
        answers.due("take after give", x.take(5), 0);
        for (int i = 0; i < 5; i++) {
            answers.due("take after give: byte " + i, x.get(0, i), 0);
        }
    }

    private static void promise3NumbersComeBackLastFirst() {
        ByteShelf x = new ByteShelf();
        for (int row = 0; row < 6; row++) {
            x.take(row);
        }
        x.give(1);
        x.give(4);
        x.give(2);
        answers.due("a refused give is no give", x.give(4), false);
        answers.due("a refused take uses no number", x.take(-1), ByteShelf.NONE);
        answers.due("last given back", x.take(1), 2);
        answers.due("the one before", x.take(1), 4);
        x.give(5);
        answers.due("given back since", x.take(1), 5);
        answers.due("the first given back", x.take(1), 1);
        answers.due("a new number", x.take(1), 6);
        ByteShelf full = fullShelf();
        full.give(3);
        full.give(24);
        answers.due("full after give: take(16384)", full.take(16384), 24);
        answers.due("a take that is FULL", full.take(16384), ByteShelf.FULL);
        answers.due("uses no number", full.take(1), 3);
    }

    private static void promise4Resize() {
        ByteShelf x = new ByteShelf();
        x.take(10);
        x.take(10);
        x.fill(0, 0, 10, 100);
        x.fill(1, 0, 10, 50);
        int other = x.sum(1);
        answers.due("resize(0, 100)", x.resize(0, 100), 100);
        for (int i = 0; i < 100; i++) {
            answers.due("resize(0, 100): byte " + i, x.get(0, i), i < 10 ? 100 + 7 * i : 0);
        }
        answers.due("resize: places()", x.places(), 104 + 16);
        answers.due("resize(0, 4)", x.resize(0, 4), 4);
        answers.due("resize(0, 4): byte 3", x.get(0, 3), 121);
        answers.due("resize(0, 4): byte 4", x.get(0, 4), ByteShelf.NONE);
        answers.due("resize: places()", x.places(), 8 + 16);
        answers.due("resize(0, 0)", x.resize(0, 0), 0);
        answers.due("resize: places()", x.places(), 16);
        answers.due("resize(0, 16384)", x.resize(0, 16384), 16384);
        answers.due("resize: first byte", x.get(0, 0), 0);
        answers.due("resize: last byte", x.get(0, 16383), 0);
        for (int n : new int[] {LOW, -1, 16385, HIGH}) {
            answers.due("resize(0, " + n + ")", x.resize(0, n), ByteShelf.NONE);
        }
        answers.due("resize refused: size(0)", x.size(0), 16384);
        answers.due("resize: rows()", x.rows(), 2);
        answers.due("resize: the other row", x.sum(1), other);
    }

    private static void promise4ResizeWhenFull() {
        ByteShelf x = fullShelf();
        x.fill(24, 0, 6784, 3);
        int kept = x.sum(24);
        answers.due("full: resize(24, 6785)", x.resize(24, 6785), ByteShelf.FULL);
        answers.due("full: resize(24, 16385)", x.resize(24, 16385), ByteShelf.NONE);
        answers.due("full: size(24)", x.size(24), 6784);
        answers.due("full: sum(24)", x.sum(24), kept);
        answers.due("full: places()", x.places(), 400000);
        answers.due("full: resize to the same", x.resize(24, 6784), 6784);
        answers.due("full: resize within its places", x.resize(24, 6777), 6777);
        answers.due("full: and back", x.resize(24, 6784), 6784);
        answers.due("full: the new bytes", x.get(24, 6783), 0);
        answers.due("resize(24, 8)", x.resize(24, 8), 8);
        answers.due("6776 left: resize(24, 6777)", x.resize(24, 6777), ByteShelf.FULL);
        answers.due("6776 left: size(24)", x.size(24), 8);
        answers.due("6776 left: resize(24, 6776)", x.resize(24, 6776), 6776);
        answers.due("6776 left: places()", x.places(), 400000 - 8);
        answers.due("8 left: resize(24, 6777)", x.resize(24, 6777), ByteShelf.FULL);
        answers.due("8 left: take(8)", x.take(8), 25);
    }

    private static void promise4ResizeClearsWhatWasCutOff() {
        ByteShelf x = new ByteShelf();
        x.take(8);
        x.fill(0, 0, 8, 1);
        x.resize(0, 5);
        x.resize(0, 8);
        for (int i = 0; i < 8; i++) {
            answers.due("cut off in its places: byte " + i, x.get(0, i), i < 5 ? 1 + 7 * i : 0);
        }
        x.resize(0, 40);
        x.fill(0, 0, 40, 1);
        x.resize(0, 1);
        x.resize(0, 40);
        for (int i = 0; i < 40; i++) {
            answers.due("cut off beyond: byte " + i, x.get(0, i), i < 1 ? 1 : 0);
        }
    }

    private static void promise5Put() {
        ByteShelf x = new ByteShelf();
        x.take(3);
        x.take(8);
        x.take(3);
        int[] numbers = {0, 1, 127, 128, 255, 256, -1, -128, -129, 0x12345678, LOW, HIGH};
        for (int b : numbers) {
            for (int i = 0; i < 8; i += 7) {
                answers.due("put(1, " + i + ", " + b + ")", x.put(1, i, b), true);
                answers.due("put: byte " + i, x.get(1, i), b & 255);
            }
        }
        answers.due("put: the byte beside", x.get(1, 1), 0);
        int kept = x.sum(1);
        for (int i : new int[] {LOW, -1, 8, HIGH}) {
            answers.due("put(1, " + i + ", 9)", x.put(1, i, 9), false);
        }
        answers.due("put(0, 3, 9)", x.put(0, 3, 9), false);
        answers.due("put(3, 0, 9)", x.put(3, 0, 9), false);
        answers.due("put refused", x.sum(1), kept);
        answers.due("put: the row before", x.sum(0), 7 * 31 * 31 * 31);
        answers.due("put: the row behind", x.sum(2), 7 * 31 * 31 * 31);
        x.take(0);
        answers.due("put in an empty row", x.put(3, 0, 9), false);
    }

    private static void promise6Fill() {
        for (int seed : new int[] {0, 5, 255, 256, -1, -1000, LOW, HIGH}) {
            ByteShelf x = new ByteShelf();
            x.take(1000);
            x.take(1000);
            answers.due("fill all, " + seed, x.fill(0, 0, 1000, seed), true);
            answers.due("fill a part, " + seed, x.fill(1, 100, 800, seed), true);
            // A get a byte would be more calls than an object is promised to take.
            int whole = 7;
            int part = 7;
            for (int k = 0; k < 1000; k++) {
                int j = k - 100;
                whole = 31 * whole + (seed + 7 * k + k / 250 & 255);
                part = 31 * part + (j >= 0 && j < 800 ? seed + 7 * j + j / 250 & 255 : 0);
            }
            answers.due("fill all, " + seed + ": sum", x.sum(0), whole);
            answers.due("fill a part, " + seed + ": sum", x.sum(1), part);
            for (int k = 249; k < 252; k++) {
                answers.due("fill: byte " + k, x.get(0, k), seed + 7 * k + k / 250 & 255);
            }
        }
    }

    private static void promise6FillRefused() {
        ByteShelf x = new ByteShelf();
        x.take(10);
        x.take(0);
        int kept = x.sum(0);
        answers.due("fill(0, 0, 11, 1)", x.fill(0, 0, 11, 1), false);
        answers.due("fill(0, 1, 10, 1)", x.fill(0, 1, 10, 1), false);
        answers.due("fill(0, 10, 1, 1)", x.fill(0, 10, 1, 1), false);
        answers.due("fill(0, -1, 5, 1)", x.fill(0, -1, 5, 1), false);
        answers.due("fill(0, 5, -1, 1)", x.fill(0, 5, -1, 1), false);
        answers.due("fill(0, 11, 0, 1)", x.fill(0, 11, 0, 1), false);
        answers.due("fill(0, 11, -1, 1)", x.fill(0, 11, -1, 1), false);
        answers.due("fill(0, -1, 0, 1)", x.fill(0, -1, 0, 1), false);
        answers.due("fill(0, 1, HIGH, 1)", x.fill(0, 1, HIGH, 1), false);
        answers.due("fill(0, HIGH, 1, 1)", x.fill(0, HIGH, 1, 1), false);
        answers.due("fill(0, HIGH, HIGH, 1)", x.fill(0, HIGH, HIGH, 1), false);
        answers.due("fill(0, LOW, HIGH, 1)", x.fill(0, LOW, HIGH, 1), false);
        answers.due("fill(0, LOW, LOW, 1)", x.fill(0, LOW, LOW, 1), false);
        answers.due("fill(0, 0, LOW, 1)", x.fill(0, 0, LOW, 1), false);
        answers.due("fill(1, 0, 1, 1)", x.fill(1, 0, 1, 1), false);
        answers.due("fill of no bytes", x.fill(0, 3, 0, 1), true);
        answers.due("fill of no bytes at the end", x.fill(0, 10, 0, 1), true);
        answers.due("fill of no bytes of an empty row", x.fill(1, 0, 0, 1), true);
        answers.due("fill refused: sum", x.sum(0), kept);
        answers.due("fill(0, 9, 1, 77)", x.fill(0, 9, 1, 77), true);
        answers.due("fill(0, 9, 1, 77): byte 9", x.get(0, 9), 77);
        answers.due("fill(0, 9, 1, 77): byte 8", x.get(0, 8), 0);
    }

    private static void promise7Copy() {
        ByteShelf x = new ByteShelf();
        x.take(30);
        x.take(5);
        x.take(0);
        x.fill(0, 0, 30, 11);
        x.fill(1, 0, 5, 99);
        int first = x.sum(0);
        int second = x.sum(1);
        answers.due("copy(0, 0)", x.copy(0, 0), 30);
        answers.due("copy(0, 0): sum", x.sum(0), first);
        answers.due("copy to a longer one", x.copy(1, 0), 30);
        answers.due("copy to a longer one: sum", x.sum(1), first);
        answers.due("copy: the source", x.sum(0), first);
        answers.due("copy: places()", x.places(), 64);
        answers.due("copy: rows()", x.rows(), 3);
        x.put(1, 0, 200);
        answers.due("a copy is apart", x.sum(0), first);
        answers.due("resize(1, 5)", x.resize(1, 5), 5);
        x.fill(1, 0, 5, 99);
        answers.due("copy to a shorter one", x.copy(0, 1), 5);
        answers.due("copy to a shorter one: sum", x.sum(0), second);
        answers.due("copy to a shorter one: places()", x.places(), 16);
        answers.due("copy of an empty row", x.copy(0, 2), 0);
        answers.due("copy of an empty row: size", x.size(0), 0);
        answers.due("copy to an empty row", x.copy(2, 1), 5);
        answers.due("copy to an empty row: compare", x.compare(2, 1), 0);
        for (int row : new int[] {LOW, -1, 3, 20000, HIGH}) {
            answers.due("copy(1, " + row + ")", x.copy(1, row), ByteShelf.NONE);
            answers.due("copy(" + row + ", 1)", x.copy(row, 1), ByteShelf.NONE);
        }
        answers.due("copy refused: sum", x.sum(1), second);
    }

    private static void promise7CopyWhenFull() {
        ByteShelf x = fullShelf();
        x.fill(0, 0, 16384, 1);
        x.fill(24, 0, 6784, 2);
        int big = x.sum(0);
        int small = x.sum(24);
        answers.due("full: copy(24, 0)", x.copy(24, 0), ByteShelf.FULL);
        answers.due("full: size(24)", x.size(24), 6784);
        answers.due("full: sum(24)", x.sum(24), small);
        answers.due("full: places()", x.places(), 400000);
        answers.due("full: copy of as many places", x.copy(1, 0), 16384);
        answers.due("full: sum(1)", x.sum(1), big);
        answers.due("full: copy to itself", x.copy(24, 24), 6784);
        answers.due("full: copy of fewer places", x.copy(2, 24), 6784);
        answers.due("full: sum(2)", x.sum(2), small);
        answers.due("9600 left: copy(24, 0)", x.copy(24, 0), ByteShelf.FULL);
        answers.due("resize(3, 9600)", x.resize(3, 9600), 9600);
        answers.due("16384 left: copy(24, 0)", x.copy(24, 0), 16384);
        answers.due("16384 left: sum(24)", x.sum(24), big);
        answers.due("16384 left: sum(2)", x.sum(2), small);
        answers.due("6784 left: places()", x.places(), 400000 - 6784);
    }

    private static void promise8Get() {
        ByteShelf x = new ByteShelf();
        x.take(5);
        x.take(0);
        x.put(0, 0, 128);
        x.put(0, 4, 255);
        answers.due("get(0, 0)", x.get(0, 0), 128);
        answers.due("get(0, 1)", x.get(0, 1), 0);
        answers.due("get(0, 4)", x.get(0, 4), 255);
        for (int i : new int[] {LOW, -1, 5, 7, 8, HIGH}) {
            answers.due("get(0, " + i + ")", x.get(0, i), ByteShelf.NONE);
        }
        answers.due("get(1, 0)", x.get(1, 0), ByteShelf.NONE);
        answers.due("get(2, 0)", x.get(2, 0), ByteShelf.NONE);
    }

    private static void promise9Size() {
        ByteShelf x = new ByteShelf();
        for (int n : new int[] {0, 1, 7, 8, 9, 16384}) {
            int row = x.take(n);
            answers.due("size of " + n, x.size(row), n);
        }
        answers.due("size(6)", x.size(6), ByteShelf.NONE);
        answers.due("size(-1)", x.size(-1), ByteShelf.NONE);
        x.give(3);
        answers.due("size of a row given back", x.size(3), ByteShelf.NONE);
        answers.due("take(2)", x.take(2), 3);
        answers.due("size of a row taken again", x.size(3), 2);
    }

    private static void promise10Compare() {
        ByteShelf x = new ByteShelf();
        x.take(3);
        x.take(3);
        answers.due("compare of equal ones", x.compare(0, 1), 0);
        answers.due("compare with itself", x.compare(0, 0), 0);
        x.put(0, 2, 1);
        bothWays(x, "the last byte", 1);
        x.put(1, 2, 200);
        bothWays(x, "a byte over 127", -1);
        x.put(0, 0, 128);
        x.put(1, 0, 127);
        bothWays(x, "the first byte that differs", 1);
        x.put(0, 0, 255);
        x.put(1, 0, 0);
        bothWays(x, "255 and 0", 1);
        x.copy(1, 0);
        x.resize(1, 4);
        bothWays(x, "a shorter one that the other begins with", -1);
        x.put(0, 1, 1);
        bothWays(x, "a shorter one with a greater byte", 1);
        x.resize(0, 0);
        bothWays(x, "an empty one", -1);
        x.resize(1, 0);
        bothWays(x, "two empty ones", 0);
        for (int row : new int[] {LOW, -1, 2, 20000, HIGH}) {
            answers.due("compare(0, " + row + ")", x.compare(0, row), -2);
            answers.due("compare(" + row + ", 0)", x.compare(row, 0), -2);
        }
    }

    private static void bothWays(ByteShelf x, String what, int want) {
        answers.due("compare, " + what, x.compare(0, 1), want);
        answers.due("compare the other way, " + what, x.compare(1, 0), -want);
    }

    private static void promise11Sum() {
        ByteShelf x = new ByteShelf();
        x.take(0);
        x.take(1);
        x.take(2);
        answers.due("sum of an empty row", x.sum(0), 7);
        answers.due("sum of a byte 0", x.sum(1), 217);
        x.put(1, 0, 255);
        answers.due("sum of a byte 255", x.sum(1), 217 + 255);
        x.put(2, 0, 3);
        x.put(2, 1, 128);
        answers.due("sum of two bytes", x.sum(2), (217 + 3) * 31 + 128);
        answers.due("sum of none", x.sum(3), 0);
        answers.due("sum of -1", x.sum(-1), 0);
        x.give(2);
        answers.due("sum of one given back", x.sum(2), 0);
        int want = 7;
        for (int k = 0; k < 16384; k++) {
            want = 31 * want + (77 + 7 * k + k / 250 & 255);
        }
        x.resize(1, 16384);
        x.fill(1, 0, 16384, 77);
        answers.due("sum that wraps around", x.sum(1), want);
    }

    private static void promise12Rows() {
        ByteShelf x = new ByteShelf();
        for (int row = 0; row < 100; row++) {
            x.take(row % 3);
            answers.due("rows()", x.rows(), row + 1);
        }
        for (int row = 0; row < 100; row += 2) {
            x.give(row);
            answers.due("rows() after give", x.rows(), 99 - row / 2);
        }
        x.give(0);
        x.take(-1);
        x.resize(1, 100);
        x.copy(3, 1);
        answers.due("rows() after calls that keep them", x.rows(), 50);
    }

    private static void promise13Places() {
        int[] lengths = {0, 1, 7, 8, 9, 15, 16, 17, 16383, 16384};
        int[] places = {0, 8, 8, 8, 16, 16, 16, 24, 16384, 16384};
        ByteShelf x = new ByteShelf();
        int all = 0;
        for (int i = 0; i < lengths.length; i++) {
            x.take(lengths[i]);
            all += places[i];
            answers.due("places() with " + lengths[i], x.places(), all);
        }
        for (int i = 0; i < lengths.length; i++) {
            x.give(i);
            all -= places[i];
            answers.due("places() without " + lengths[i], x.places(), all);
        }
        int row = x.take(0);
        answers.due("the number given back last", row, lengths.length - 1);
        for (int i = 0; i < lengths.length; i++) {
            x.resize(row, lengths[i]);
            answers.due("places() grown to " + lengths[i], x.places(), places[i]);
        }
        for (int i = lengths.length - 1; i >= 0; i--) {
            x.resize(row, lengths[i]);
            answers.due("places() cut to " + lengths[i], x.places(), places[i]);
        }
    }

    private static void placesUsedBeforeAreCleared() {
        ByteShelf x = fullShelf();
        for (int row = 0; row < 25; row++) {
            x.fill(row, 0, x.size(row), 1);
        }
        int zeros = 7;
        for (int i = 0; i < 16384; i++) {
            zeros = 31 * zeros;
        }
        for (int row = 0; row < 24; row++) {
            x.give(row);
            answers.due("take where bytes were", x.take(16384), row);
            answers.due("take where bytes were: sum", x.sum(row), zeros);
            x.fill(row, 0, 16384, 2);
        }
    }

    /** A row that grows is pushed together with the others, and only then moved to its new places. */
    private static void pushingTogetherMovesTheRowThatGrows() {
        ByteShelf x = fullShelf();
        for (int row = 0; row < 24; row++) {
            x.fill(row, 0, 16384, row);
        }
        x.give(0);
        x.resize(5, 4000);
        x.resize(6, 4000);
        int grows = x.sum(5);
        for (int n = 4001; n < 16000; n += 500) {
            answers.due("resize(5, " + n + ")", x.resize(5, n), n);
            answers.due("resize(6, " + n + ")", x.resize(6, n), n);
            answers.due("resize(5, 4000)", x.resize(5, 4000), 4000);
            answers.due("the row that grew", x.sum(5), grows);
            answers.due("resize(6, 4000)", x.resize(6, 4000), 4000);
        }
        for (int row = 1; row < 24; row++) {
            x.resize(row, 4000);
            answers.due("first byte of row " + row, x.get(row, 0), row);
            answers.due("byte 3999 of row " + row, x.get(row, 3999), row + 7 * 3999 + 15 & 255);
        }
    }

    /** The shelf is full of gaps again and again, and every row must come through unchanged. */
    private static void pushingTogetherKeepsEveryRow() {
        ByteShelf x = new ByteShelf();
        int[] sums = new int[40];
        for (int row = 0; row < 40; row++) {
            x.take(9990);
            x.fill(row, 0, 9990, row);
            sums[row] = x.sum(row);
        }
        for (int round = 0; round < 4; round++) {
            for (int row = round; row < 40; row += 5) {
                answers.due("give " + row, x.give(row), true);
                answers.due("take " + row, x.take(9985), row);
                x.fill(row, 0, 9985, row + round);
                sums[row] = x.sum(row);
            }
        }
        for (int row = 0; row < 40; row++) {
            answers.due("pushed together: sum(" + row + ")", x.sum(row), sums[row]);
        }
        answers.due("pushed together: places()", x.places(), 32 * 9992 + 8 * 9992);
    }

    private static void objectsShareNothing() {
        ByteShelf x = new ByteShelf();
        ByteShelf y = new ByteShelf();
        x.take(4);
        answers.due("another object: rows()", y.rows(), 0);
        answers.due("another object: take(4)", y.take(4), 0);
        x.fill(0, 0, 4, 1);
        answers.due("another object: byte 0", y.get(0, 0), 0);
    }
}
