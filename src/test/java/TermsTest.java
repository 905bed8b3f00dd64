/** The boundaries that all promises share: the document's terms, a test for each of their words. */
public final class TermsTest {
    private static final int NONE = ByteShelf.NONE;
    private static final int FULL = ByteShelf.FULL;
    private static final int LARGEST = Shelves.LARGEST;
    private static final Answers answers = new Answers();

    public static void main(String[] args) {
        Sentences.run(TermsTest.class, answers);
    }

    @Says("each has 0 to 16384 bytes: too small")
    static void lengthsFrom0On() {
        ByteShelf x = new ByteShelf();
        answers.due("take(-1)", x.take(-1), NONE);
        answers.due("take(LOW)", x.take(Shelves.LOW), NONE);
        answers.due("take(0)", x.take(0), 0);
        answers.due("take(1)", x.take(1), 1);
        answers.due("resize(1, -1)", x.resize(1, -1), NONE);
        answers.due("resize(1, LOW)", x.resize(1, Shelves.LOW), NONE);
        answers.due("size(0)", x.size(0), 0);
        answers.due("size(1)", x.size(1), 1);
        answers.due("resize(1, 0)", x.resize(1, 0), 0);
        answers.due("size(1) then", x.size(1), 0);
        answers.due("a row without bytes is a row", x.rows(), 2);
    }

    @Says("each has 0 to 16384 bytes: too large")
    static void lengthsUpTo16384() {
        ByteShelf x = new ByteShelf();
        answers.due("take(16385)", x.take(16385), NONE);
        answers.due("take(HIGH)", x.take(Shelves.HIGH), NONE);
        answers.due("take(16384)", x.take(16384), 0);
        answers.due("take(16383)", x.take(16383), 1);
        answers.due("resize(1, 16385)", x.resize(1, 16385), NONE);
        answers.due("resize(1, HIGH)", x.resize(1, Shelves.HIGH), NONE);
        answers.due("size(0)", x.size(0), 16384);
        answers.due("size(1)", x.size(1), 16383);
        answers.due("resize(1, 16384)", x.resize(1, 16384), 16384);
        answers.due("put the last byte", x.put(1, 16383, 5), true);
        answers.due("get the last byte", x.get(1, 16383), 5);
    }

    @Says("A row that is given back is no row any more")
    static void aRowGivenBackIsNoRow() {
        ByteShelf x = Shelves.of(10, 20, 30);
        x.give(1);
        noSuchRow(x, 1, 0);
        ByteShelf last = Shelves.of(10, 20, 30);
        last.give(2);
        noSuchRow(last, 2, 0);
        ByteShelf empty = Shelves.of(10, 0);
        empty.give(1);
        noSuchRow(empty, 1, 0);
    }

    @Says("numbers are given from 0 on: a number that was not given yet is no row")
    static void aNumberNotGivenIsNoRow() {
        for (int row : new int[] {Shelves.LOW, -1, 2, 3, 19999, 20000, 20001, Shelves.HIGH}) {
            noSuchRow(Shelves.of(10, 20), row, 0);
        }
    }

    private static void noSuchRow(ByteShelf x, int row, int other) {
        String at = "no row " + row + ": ";
        String before = Shelves.seen(x, 3);
        answers.due(at + "give", x.give(row), false);
        answers.due(at + "resize", x.resize(row, 1), NONE);
        answers.due(at + "put", x.put(row, 0, 1), false);
        answers.due(at + "fill", x.fill(row, 0, 1, 1), false);
        answers.due(at + "fill of no bytes", x.fill(row, 0, 0, 1), false);
        answers.due(at + "copy to it", x.copy(row, other), NONE);
        answers.due(at + "copy of it", x.copy(other, row), NONE);
        answers.due(at + "copy to itself", x.copy(row, row), NONE);
        answers.due(at + "get", x.get(row, 0), NONE);
        answers.due(at + "size", x.size(row), NONE);
        answers.due(at + "compare it", x.compare(row, other), -2);
        answers.due(at + "compare with it", x.compare(other, row), -2);
        answers.due(at + "compare with itself", x.compare(row, row), -2);
        answers.due(at + "sum", x.sum(row), 0);
        answers.due(at + "what is seen then", Shelves.seen(x, 3), before);
    }

    @Says("its number is the next that is given")
    static void theNumberGivenBackIsTheNext() {
        for (int row = 0; row < 3; row++) {
            ByteShelf x = Shelves.of(10, 0, 30);
            x.give(row);
            answers.due("take after give(" + row + ")", x.take(5), row);
            answers.due("take after it", x.take(5), 3);
        }
    }

    @Says("of several the one given back last comes first")
    static void theOneGivenBackLastComesFirst() {
        ByteShelf x = Shelves.of(0, 1, 2, 3, 4, 5);
        for (int row : new int[] {1, 4, 2}) {
            answers.due("give(" + row + ")", x.give(row), true);
        }
        answers.due("the last", x.take(1), 2);
        answers.due("the one before", x.take(1), 4);
        answers.due("give(5)", x.give(5), true);
        answers.due("given back since", x.take(1), 5);
        answers.due("the first", x.take(1), 1);
        answers.due("no more are given back", x.take(1), 6);
        for (int row = 0; row < 7; row++) {
            x.give(row);
        }
        for (int row = 6; row >= 0; row--) {
            answers.due("all given back", x.take(9), row);
        }
        answers.due("after all", x.take(9), 7);
    }

    @Says("its number is the next that is given: once for each time that it is given back")
    static void aNumberComesBackOnce() {
        ByteShelf x = Shelves.of(8, 8);
        for (int round = 0; round < 5; round++) {
            answers.due("give(0)", x.give(0), true);
            answers.due("give(0) again", x.give(0), false);
            answers.due("take(8)", x.take(8), 0);
        }
        answers.due("a new number", x.take(8), 2);
    }

    @Says("its number is the next that is given: not by a take that is refused or FULL")
    static void aTakeThatFailsUsesNoNumber() {
        ByteShelf x = Shelves.full();
        x.give(3);
        x.give(24);
        answers.due("take(16385)", x.take(16385), NONE);
        answers.due("take(-1)", x.take(-1), NONE);
        answers.due("take(16384)", x.take(LARGEST), 24);
        answers.due("take(16384) without room", x.take(LARGEST), FULL);
        answers.due("take(1)", x.take(1), 3);
        answers.due("take(16384) without room again", x.take(LARGEST), FULL);
        answers.due("take(2)", x.take(2), 25);
    }

    @Says("otherwise numbers are given from 0 on")
    static void numbersFrom0On() {
        ByteShelf x = new ByteShelf();
        for (int row = 0; row < 512; row++) {
            answers.due("take(" + row % 40 + ")", x.take(row % 40), row);
        }
    }

    @Says("as many places as it has bytes, rounded up to a multiple of 8")
    static void placesAreRoundedUp() {
        int[] lengths = {0, 1, 7, 8, 9, 15, 16, 17, 16376, 16377, 16383, 16384};
        int[] places = {0, 8, 8, 8, 16, 16, 16, 24, 16376, 16384, 16384, 16384};
        for (int i = 0; i < lengths.length; i++) {
            String n = "(" + lengths[i] + ")";
            ByteShelf x = Shelves.of(3);
            x.take(lengths[i]);
            answers.due("places() after take" + n, x.places(), 8 + places[i]);
            x.copy(0, 1);
            answers.due("places() after copy" + n, x.places(), 2 * places[i]);
            x.give(1);
            answers.due("places() after give" + n, x.places(), places[i]);
            x.resize(0, LARGEST);
            x.resize(0, lengths[i]);
            answers.due("places() after cut" + n, x.places(), places[i]);
            x.resize(0, 0);
            x.resize(0, lengths[i]);
            answers.due("places() after growth" + n, x.places(), places[i]);
        }
    }

    @Says("all rows together, with a new one, at most 400000: just so many")
    static void just400000() {
        ByteShelf x = Shelves.withLeft(6784);
        answers.due("6784 left: take(6784)", x.take(6784), 25);
        answers.due("places()", x.places(), 400000);
        ByteShelf rounded = Shelves.withLeft(6784);
        answers.due("6784 left: take(6777)", rounded.take(6777), 25);
        answers.due("places() with 6777", rounded.places(), 400000);
    }

    @Says("all rows together, with a new one, at most 400000: one too many")
    static void moreThan400000() {
        ByteShelf x = Shelves.withLeft(6768);
        String before = Shelves.seen(x, 26);
        answers.due("6768 left: take(6769)", x.take(6769), FULL);
        answers.due("6768 left: take(16384)", x.take(LARGEST), FULL);
        answers.due("what is seen then", Shelves.seen(x, 26), before);
        answers.due("6768 left: take(6760)", x.take(6760), 25);
        answers.due("8 left: take(9)", x.take(9), FULL);
        answers.due("8 left: take(8)", x.take(8), 26);
        answers.due("0 left: take(1)", x.take(1), FULL);
    }

    @Says("all rows together, with a new one, at most 400000: places count, not bytes")
    static void placesCountNotBytes() {
        ByteShelf x = new ByteShelf();
        for (int row = 0; row < 400; row++) {
            answers.due("take(993)", x.take(993), row);
        }
        answers.due("places()", x.places(), 400000);
        answers.due("take(1)", x.take(1), FULL);
        answers.due("growth inside the places", x.resize(399, 1000), 1000);
        answers.due("growth by one", x.resize(399, 1001), FULL);
    }

    @Says("all rows together, with a new one, at most 400000: a row without bytes needs no place")
    static void emptyRowsOnAFullShelf() {
        ByteShelf x = Shelves.full();
        answers.due("take(0)", x.take(0), 25);
        answers.due("take(0) again", x.take(0), 26);
        answers.due("copy of an empty row to one", x.copy(25, 26), 0);
        answers.due("resize(25, 0)", x.resize(25, 0), 0);
        answers.due("resize(25, 1)", x.resize(25, 1), FULL);
        answers.due("fill(25, 0, 0, 1)", x.fill(25, 0, 0, 1), true);
        answers.due("give(25)", x.give(25), true);
        answers.due("places()", x.places(), 400000);
        answers.due("rows()", x.rows(), 26);
    }

    @Says("all rows together: what a row no longer takes can be taken again")
    static void placesThatAreFreeAgain() {
        ByteShelf x = Shelves.full();
        x.give(7);
        answers.due("after give: take(16384)", x.take(LARGEST), 7);
        answers.due("after give: take(1)", x.take(1), FULL);
        x.resize(9, 16375);
        answers.due("after resize: take(9)", x.take(9), FULL);
        answers.due("after resize: take(8)", x.take(8), 25);
        answers.due("after resize: take(1)", x.take(1), FULL);
        x.copy(11, 25);
        answers.due("after copy: take(16377)", x.take(16377), FULL);
        answers.due("after copy: take(16376)", x.take(16376), 26);
        answers.due("after copy: take(1)", x.take(1), FULL);
    }

    @Says("one that grows to more places must find these beside all that are taken")
    static void growthJustFits() {
        ByteShelf small = Shelves.withLeft(6768);
        answers.due("6768 left: resize(24, 6769)", small.resize(24, 6769), FULL);
        answers.due("6768 left: resize(24, 6768)", small.resize(24, 6768), 6768);
        answers.due("places()", small.places(), 400000 - 16);
        ByteShelf large = Shelves.full();
        large.resize(0, 8);
        answers.due("16376 left: resize(24, 16384)", large.resize(24, LARGEST), FULL);
        large.give(0);
        answers.due("16384 left: resize(24, 16384)", large.resize(24, LARGEST), LARGEST);
        answers.due("places() with a large one", large.places(), 400000 - 6784);
    }

    @Says("one that grows to more places must find these: one without places, too")
    static void anEmptyRowGrows() {
        ByteShelf x = Shelves.withLeft(8);
        answers.due("take(0)", x.take(0), 25);
        answers.due("8 left: resize(25, 9)", x.resize(25, 9), FULL);
        answers.due("8 left: resize(25, 8)", x.resize(25, 8), 8);
        answers.due("places()", x.places(), 400000);
    }

    @Says("one that grows to more places must find these beside its old ones, too")
    static void oldPlacesCountToo() {
        ByteShelf x = Shelves.withLeft(8);
        answers.due("size(24)", x.size(24), 6776);
        String before = Shelves.seen(x, 25);
        answers.due("8 left: resize(24, 6777)", x.resize(24, 6777), FULL);
        answers.due("what is seen then", Shelves.seen(x, 25), before);
        x.resize(0, LARGEST - 6768);
        answers.due("6776 left: resize(24, 6777)", x.resize(24, 6777), FULL);
        x.resize(0, LARGEST - 6776);
        answers.due("6784 left: resize(24, 6785)", x.resize(24, 6785), FULL);
        answers.due("6784 left: resize(24, 6777)", x.resize(24, 6777), 6777);
        answers.due("places()", x.places(), 400000 - 6776);
    }

    @Says("one that grows to more places: not one that stays in its places, or takes fewer")
    static void changesThatNeedNoPlaces() {
        ByteShelf x = Shelves.full();
        answers.due("as it is", x.resize(24, 6784), 6784);
        answers.due("fewer bytes, as many places", x.resize(24, 6777), 6777);
        answers.due("more bytes, as many places", x.resize(24, 6784), 6784);
        answers.due("copy of itself", x.copy(24, 24), 6784);
        answers.due("copy of one with as many", x.copy(3, 4), LARGEST);
        answers.due("copy of one with fewer", x.copy(5, 24), 6784);
        answers.due("fewer places", x.resize(24, 6776), 6776);
        answers.due("no places", x.resize(24, 0), 0);
        answers.due("places()", x.places(), 400000 - 6784 - (LARGEST - 6784));
    }

    @Says("one that grows to more places must find these: a copy, too")
    static void aCopyThatGrows() {
        ByteShelf x = Shelves.full();
        x.resize(0, 8);
        answers.due("16376 left: copy(24, 1)", x.copy(24, 1), FULL);
        x.give(0);
        answers.due("16384 left: copy(24, 1)", x.copy(24, 1), LARGEST);
        answers.due("places()", x.places(), 400000 - 6784);
        answers.due("the copy", x.compare(24, 1), 0);
    }

    @Says("All memory is the class's own")
    static void objectsShareNothing() {
        ByteShelf x = new ByteShelf();
        ByteShelf y = new ByteShelf();
        x.take(4);
        answers.due("another object: rows()", y.rows(), 0);
        answers.due("another object: take(4)", y.take(4), 0);
        x.fill(0, 0, 4, 1);
        answers.due("another object: byte 0", y.get(0, 0), 0);
        x.give(0);
        answers.due("another object: size(0)", y.size(0), 4);
        answers.due("another object: take(4) again", y.take(4), 1);
    }
}
