import java.util.NoSuchElementException;

/** One method a promise: ordinary inputs, the edges that the document names, and wrong inputs. */
public final class PromisesTest {
    private static final Class<IndexOutOfBoundsException> NO_SUCH = IndexOutOfBoundsException.class;
    private static final Class<IllegalArgumentException> ILLEGAL = IllegalArgumentException.class;
    private static final Class<IllegalStateException> FULL = IllegalStateException.class;
    private static final Class<UnsupportedOperationException> SHUT = UnsupportedOperationException.class;
    private static final Class<NoSuchElementException> FEWER = NoSuchElementException.class;
    private static final Class<ArithmeticException> NO_SHARE = ArithmeticException.class;

    private static final int MIN = Integer.MIN_VALUE;
    private static final int MAX = Integer.MAX_VALUE;
    private static final int[] NO_ROWS = {-1, 4, MIN, MAX};
    private static final int[] NO_THREES = {-1, 3, MIN, MAX};
    /** First place and how many, of a row of five bytes. */
    private static final int[][] NO_PARTS = {
        {-1, 0}, {-1, 1}, {6, 0}, {5, 1}, {0, 6}, {1, 5}, {0, -1}, {3, -1}, {5, -5}, {6, -1},
        {MAX, 1}, {1, MAX}, {MAX, MAX}, {MIN, MIN}, {MIN, MAX}, {0, MIN}, {MIN, 0},
    };

    private PromisesTest() {
    }

    public static void main(String[] args) {
        promise1();
        promise2();
        promise3();
        promise4();
        promise5();
        promise6();
        promise7();
        promise8();
        promise9();
        promise10();
        promise11();
        promise12();
        promise13();
        promise14();
        promise15();
        promise16();
        promise17();
        promise18();
        promise19();
        promise20();
        promise21();
        promise22();
        promise23();
        promise24();
        promise25();
        promise26();
        promise27();
        promise28();
        promise29();
        promise30();
        promise31();
        promise32();
        promise33();
        promise34();
        promise35();
        Check.finish();
    }

    // Helpers

    private static void due(String what, Object got, Object want) {
        Check.due(what, got, want);
    }

    /** Only the checksum is held against the one before: the tests of the edges ask for all of the well. */
    private static void refused(String what, Well well, Class<? extends RuntimeException> want,
            Check.Call call) {
        long before = well.checksum();
        Check.dueThrown(what, want, call);
        due(what + ", the checksum after it,", well.checksum(), before);
    }

    private static void set(Well well, int row, int... bytes) {
        well.make(row, bytes.length);
        for (int i = 0; i < bytes.length; i++) {
            well.put(row, i, bytes[i]);
        }
    }

    private static void dueRow(String what, Well well, int row, int... want) {
        StringBuilder got = new StringBuilder();
        for (int i = 0; i < well.length(row); i++) {
            got.append(' ').append(well.get(row, i));
        }
        StringBuilder wanted = new StringBuilder();
        for (int number : want) {
            wanted.append(' ').append(number);
        }
        due(what, got.toString(), wanted.toString());
    }

    /** Takes what the gatherer has into row 3, which the tests keep free for it. */
    private static void dueGatherer(String what, Well well, int gatherer, int... want) {
        due(what + ", its size", well.size(gatherer), want.length);
        well.take(gatherer, 3);
        dueRow(what, well, 3, want);
    }

    /** Row 0 is 1, 2, 3, 4, 5, and reader 0 is at its begin. */
    private static Well fiveOpen() {
        Well well = new Well();
        set(well, 0, 1, 2, 3, 4, 5);
        well.open(0, 0);
        return well;
    }

    /** Writes 0, 1, 2 and so on, by fours where it can, since a well has 512 calls only. */
    private static void gathered(Well well, int gatherer, int many) {
        int next = 0;
        for (; next + 4 <= many; next += 4) {
            well.writeNumber(gatherer, 0x00010203 + next * 0x01010101);
        }
        for (; next < many; next++) {
            well.write(gatherer, next);
        }
    }

    // Promises

    private static void promise1() {
        Well well = new Well();
        for (int row = 0; row < 4; row++) {
            due("1: length of row " + row, well.length(row), 0);
        }
        for (int i = 0; i < 3; i++) {
            due("1: size of gatherer " + i, well.size(i), 0);
            due("1: reader " + i + " is open", well.isOpen(i), false);
        }
        due("1: isTrue", well.isTrue(), true);
        well.open(0, 0);
        due("1: the empty rows are arrays of their own", well.readFull(0, 1, 0, 0), 0);
        set(well, 0, 9);
        due("1: a second well is another one", new Well().length(0), 0);
    }

    private static void promise2() {
        Well well = new Well();
        for (int row = 0; row < 4; row++) {
            due("2: make row " + row, well.make(row, 5 + row), 0);
            due("2: then it is that long", well.length(row), 5 + row);
        }
        well.put(0, 2, 7);
        due("2: made anew", well.make(0, 5), 5);
        dueRow("2: bytes 0", well, 0, 0, 0, 0, 0, 0);
        due("2: as long as can be", well.make(0, 256), 5);
        due("2: how long it was", well.make(0, 0), 256);
        due("2: empty", well.length(0), 0);
        for (int row : NO_ROWS) {
            refused("2: make row " + row, well, NO_SUCH, () -> well.make(row, 1));
            refused("2: make row " + row + " too long", well, NO_SUCH, () -> well.make(row, 257));
        }
        for (int length : new int[] {-1, 257, MIN, MAX}) {
            refused("2: make length " + length, well, ILLEGAL, () -> well.make(1, length));
        }
        set(well, 0, 4, 5);
        well.open(0, 0);
        well.lend(0, 1);
        well.make(0, 2);
        due("2: a reader goes on with the former one", well.read(0), 4);
        dueRow("2: and so does another row", well, 1, 4, 5);
    }

    private static void promise3() {
        Well well = new Well();
        set(well, 0, 1, 2, 3);
        set(well, 3, 7);
        due("3: lend answers how long the one was that gets it", well.lend(0, 3), 1);
        due("3: its length", well.length(3), 3);
        well.put(0, 1, 50);
        due("3: the very same array", well.get(3, 1), 50);
        well.put(3, 2, 60);
        due("3: both ways", well.get(0, 2), 60);
        due("3: to itself", well.lend(0, 0), 3);
        dueRow("3: it stays", well, 0, 1, 50, 60);
        well.open(0, 3);
        refused("3: a reader is on the same array", well, ILLEGAL, () -> well.readFull(0, 0, 0, 1));
        well.lend(1, 0);
        due("3: an empty one lent", well.length(0), 0);
        due("3: the reader stays on its own", well.left(0), 3);
        for (int row : NO_ROWS) {
            refused("3: lend of " + row, well, NO_SUCH, () -> well.lend(row, 0));
            refused("3: lend to " + row, well, NO_SUCH, () -> well.lend(3, row));
        }
    }

    private static void promise4() {
        Well well = new Well();
        well.make(1, 9);
        well.make(3, 256);
        due("4: length 0", well.length(0), 0);
        due("4: length 1", well.length(1), 9);
        due("4: length 3", well.length(3), 256);
        for (int row : NO_ROWS) {
            refused("4: length of " + row, well, NO_SUCH, () -> well.length(row));
        }
    }

    private static void promise5() {
        Well well = new Well();
        set(well, 2, 127, 128, 255, 0);
        due("5: get 0", well.get(2, 0), 127);
        due("5: get 1", well.get(2, 1), -128);
        due("5: get 2", well.get(2, 2), -1);
        due("5: get 3", well.get(2, 3), 0);
        for (int index : new int[] {-1, 4, MIN, MAX}) {
            refused("5: get at " + index, well, NO_SUCH, () -> well.get(2, index));
        }
        refused("5: get of an empty row", well, NO_SUCH, () -> well.get(0, 0));
        for (int row : NO_ROWS) {
            refused("5: get of row " + row, well, NO_SUCH, () -> well.get(row, 0));
        }
    }

    private static void promise6() {
        Well well = new Well();
        well.make(1, 2);
        due("6: put answers what was there", well.put(1, 0, 300), 0);
        due("6: the lowest 8 bits", well.put(1, 0, -1), 44);
        due("6: as a byte", well.put(1, 0, 128), -1);
        due("6: as a byte again", well.put(1, 0, MIN), -128);
        due("6: of the least number", well.put(1, 0, MAX), 0);
        due("6: of the greatest number", well.get(1, 0), -1);
        due("6: the other place stays", well.get(1, 1), 0);
        for (int index : new int[] {-1, 2, MIN, MAX}) {
            refused("6: put at " + index, well, NO_SUCH, () -> well.put(1, index, 5));
        }
        for (int row : NO_ROWS) {
            refused("6: put in row " + row, well, NO_SUCH, () -> well.put(row, 0, 5));
        }
    }

    private static void promise7() {
        Well well = new Well();
        well.make(0, 5);
        due("7: fill", well.fill(0, 1, 3, 120, 5), 0);
        dueRow("7: the filled", well, 0, 0, 120, 125, -126, 0);
        due("7: the sum of what was there", well.fill(0, 0, 5, -1, -1), 120 + 125 - 126);
        dueRow("7: by a negative step", well, 0, -1, -2, -3, -4, -5);
        due("7: a negative sum", well.fill(0, 2, 3, MAX, 1), -12);
        dueRow("7: the number goes round", well, 0, -1, -2, -1, 0, 1);
        due("7: the step goes round", well.fill(0, 0, 3, 1, MAX), -4);
        dueRow("7: by the greatest step", well, 0, 1, 0, -1, 0, 1);
        due("7: of none", well.fill(0, 0, 0, 9, 9), 0);
        due("7: of none at its length", well.fill(0, 5, 0, 9, 9), 0);
        due("7: of none in an empty row", well.fill(1, 0, 0, 9, 9), 0);
        dueRow("7: none changed", well, 0, 1, 0, -1, 0, 1);
        for (int[] part : NO_PARTS) {
            refused("7: fill from " + part[0] + " many " + part[1], well, NO_SUCH,
                () -> well.fill(0, part[0], part[1], 9, 9));
        }
        for (int row : NO_ROWS) {
            refused("7: fill row " + row, well, NO_SUCH, () -> well.fill(row, 0, 0, 9, 9));
        }
        well.make(2, 256);
        due("7: fill a whole row", well.fill(2, 0, 256, -128, 0), 0);
        due("7: the least sum", well.fill(2, 0, 256, 0, 0), -128 * 256);
    }

    private static void promise8() {
        Well well = new Well();
        set(well, 0, 1, 2, 3);
        set(well, 1, 1, 2, 3);
        set(well, 2, 1, 2, 3, 0);
        due("8: the same bytes", well.isLike(0, 1), true);
        due("8: itself", well.isLike(2, 2), true);
        due("8: longer", well.isLike(0, 2), false);
        due("8: shorter", well.isLike(2, 0), false);
        due("8: an empty one", well.isLike(0, 3), false);
        due("8: an empty one first", well.isLike(3, 0), false);
        well.put(1, 2, 4);
        due("8: another last byte", well.isLike(0, 1), false);
        well.put(1, 2, 3);
        well.put(1, 0, 0);
        due("8: another first byte", well.isLike(0, 1), false);
        well.make(0, 0);
        due("8: both empty", well.isLike(0, 3), true);
        for (int row : NO_ROWS) {
            refused("8: isLike of " + row, well, NO_SUCH, () -> well.isLike(row, 0));
            refused("8: isLike with " + row, well, NO_SUCH, () -> well.isLike(0, row));
        }
    }

    private static void promise9() {
        Well well = new Well();
        due("9: write", well.write(1, 300), 1);
        due("9: write again", well.write(1, -1), 2);
        due("9: write the least", well.write(1, MIN + 128), 3);
        dueGatherer("9: the lowest 8 bits", well, 1, 44, -1, -128);
        due("9: the others stay", well.size(0) + well.size(2), 0);
        for (int gatherer : NO_THREES) {
            refused("9: write to " + gatherer, well, NO_SUCH, () -> well.write(gatherer, 1));
        }
        gathered(well, 2, 255);
        due("9: the last one", well.write(2, 1), 256);
        refused("9: one too many", well, FULL, () -> well.write(2, 1));
        due("9: it stays full", well.size(2), 256);
    }

    private static void promise10() {
        Well well = new Well();
        set(well, 0, 1, -2, 3, -4, 5);
        due("10: writePart", well.writePart(0, 0, 1, 3), 3);
        due("10: and behind it", well.writePart(0, 0, 4, 1), 4);
        due("10: of none", well.writePart(0, 0, 5, 0), 4);
        due("10: of none of an empty row", well.writePart(0, 1, 0, 0), 4);
        dueGatherer("10: what is written", well, 0, -2, 3, -4, 5);
        well.put(0, 1, 9);
        dueGatherer("10: is kept", well, 0, -2, 3, -4, 5);
        for (int[] part : NO_PARTS) {
            refused("10: writePart from " + part[0] + " many " + part[1], well, NO_SUCH,
                () -> well.writePart(0, 0, part[0], part[1]));
        }
        for (int row : NO_ROWS) {
            refused("10: writePart of row " + row, well, NO_SUCH, () -> well.writePart(0, row, 0, 0));
        }
        for (int gatherer : NO_THREES) {
            refused("10: writePart to " + gatherer, well, NO_SUCH, () -> well.writePart(gatherer, 0, 0, 1));
        }
        gathered(well, 1, 252);
        refused("10: more than there is room for", well, FULL, () -> well.writePart(1, 0, 0, 5));
        refused("10: places come first", well, NO_SUCH, () -> well.writePart(1, 0, 0, 6));
        due("10: just as much", well.writePart(1, 0, 0, 4), 256);
        due("10: of none when full", well.writePart(1, 0, 0, 0), 256);
        refused("10: one too many", well, FULL, () -> well.writePart(1, 0, 0, 1));
    }

    private static void promise11() {
        Well well = new Well();
        set(well, 0, 1, -2, 3);
        due("11: writeRow", well.writeRow(2, 0), 3);
        due("11: again", well.writeRow(2, 0), 6);
        due("11: an empty one", well.writeRow(2, 1), 6);
        dueGatherer("11: what is written", well, 2, 1, -2, 3, 1, -2, 3);
        for (int row : NO_ROWS) {
            refused("11: writeRow of " + row, well, NO_SUCH, () -> well.writeRow(2, row));
        }
        for (int gatherer : NO_THREES) {
            refused("11: writeRow to " + gatherer, well, NO_SUCH, () -> well.writeRow(gatherer, 0));
        }
        gathered(well, 0, 254);
        refused("11: more than there is room for", well, FULL, () -> well.writeRow(0, 0));
        well.make(0, 2);
        due("11: just as much", well.writeRow(0, 0), 256);
        due("11: an empty one when full", well.writeRow(0, 1), 256);
        well.make(2, 256);
        due("11: a whole one", well.writeRow(1, 2), 256);
    }

    private static void promise12() {
        Well well = new Well();
        due("12: writeNumber", well.writeNumber(0, 66051), 4);
        due("12: again", well.writeNumber(0, 0x80FF7F01), 8);
        due("12: a negative one", well.writeNumber(0, -2), 12);
        dueGatherer("12: the highest byte first", well, 0, 0, 1, 2, 3, -128, -1, 127, 1, -1, -1, -1, -2);
        for (int gatherer : NO_THREES) {
            refused("12: writeNumber to " + gatherer, well, NO_SUCH, () -> well.writeNumber(gatherer, 1));
        }
        gathered(well, 1, 252);
        due("12: the last one", well.writeNumber(1, 7), 256);
        gathered(well, 2, 253);
        refused("12: more than there is room for", well, FULL, () -> well.writeNumber(2, 7));
    }

    private static void promise13() {
        Well well = new Well();
        gathered(well, 0, 3);
        gathered(well, 2, 256);
        due("13: size 0", well.size(0), 3);
        due("13: size 1", well.size(1), 0);
        due("13: size 2", well.size(2), 256);
        for (int gatherer : NO_THREES) {
            refused("13: size of " + gatherer, well, NO_SUCH, () -> well.size(gatherer));
        }
    }

    private static void promise14() {
        Well well = new Well();
        gathered(well, 0, 256);
        gathered(well, 1, 2);
        well.take(1, 0);
        due("14: empty", well.empty(0), 256);
        due("14: then it is", well.size(0), 0);
        due("14: empty again", well.empty(0), 0);
        due("14: the other one stays", well.size(1), 2);
        due("14: writing begins anew", well.write(0, 9), 1);
        dueGatherer("14: with nothing before", well, 0, 9);
        well.empty(1);
        well.write(1, 5);
        dueRow("14: what was taken stays", well, 0, 0, 1);
        for (int gatherer : NO_THREES) {
            refused("14: empty of " + gatherer, well, NO_SUCH, () -> well.empty(gatherer));
        }
    }

    private static void promise15() {
        Well well = new Well();
        gathered(well, 0, 3);
        set(well, 1, 8, 8);
        well.open(0, 1);
        due("15: take", well.take(0, 1), 3);
        dueRow("15: what it has", well, 1, 0, 1, 2);
        due("15: a reader goes on with the former one", well.left(0), 2);
        due("15: and reads it", well.read(0), 8);
        well.take(0, 2);
        well.write(0, 9);
        well.put(1, 0, 70);
        dueRow("15: each is a row of its own", well, 2, 0, 1, 2);
        dueGatherer("15: which changes nothing of it", well, 0, 0, 1, 2, 9);
        due("15: of an empty one", well.take(1, 1), 0);
        due("15: the row is empty", well.length(1), 0);
        gathered(well, 2, 256);
        due("15: of a full one", well.take(2, 1), 256);
        due("15: its last byte", well.get(1, 255), -1);
        for (int gatherer : NO_THREES) {
            refused("15: take of " + gatherer, well, NO_SUCH, () -> well.take(gatherer, 0));
        }
        for (int row : NO_ROWS) {
            refused("15: take to row " + row, well, NO_SUCH, () -> well.take(0, row));
        }
    }

    private static void promise16() {
        Well well = new Well();
        set(well, 0, 1, 2, 3);
        due("16: open", well.open(2, 0), 3);
        due("16: the others stay shut", well.isOpen(0) || well.isOpen(1), false);
        well.read(2);
        well.mark(2, 1);
        due("16: open again", well.open(2, 0), 3);
        well.read(2);
        due("16: without a mark", well.back(2), 3);
        well.put(0, 0, 40);
        due("16: the very array, not a copy", well.read(2), 40);
        due("16: an empty row", well.open(1, 3), 0);
        well.make(0, 7);
        due("16: the array that the row was", well.left(2), 2);
        due("16: the array that the row is then", well.open(2, 0), 7);
        for (int reader : NO_THREES) {
            refused("16: open " + reader, well, NO_SUCH, () -> well.open(reader, 0));
        }
        for (int row : NO_ROWS) {
            refused("16: open on row " + row, well, NO_SUCH, () -> well.open(2, row));
            refused("16: open none on row " + row, well, NO_SUCH, () -> well.open(0, row));
        }
    }

    private static void promise17() {
        Well well = new Well();
        well.open(1, 0);
        due("17: one that was opened on an empty row", well.isOpen(1), true);
        due("17: one that was not", well.isOpen(0), false);
        due("17: nor this", well.isOpen(2), false);
        well.read(1);
        due("17: at its end it still is", well.isOpen(1), true);
        for (int reader : NO_THREES) {
            refused("17: isOpen of " + reader, well, NO_SUCH, () -> well.isOpen(reader));
        }
    }

    private static void promise18() {
        Well well = new Well();
        set(well, 0, 127, 128, 255, 0);
        well.open(0, 0);
        due("18: read", well.read(0), 127);
        due("18: 0 to 255", well.read(0), 128);
        due("18: not -1", well.read(0), 255);
        well.put(0, 3, 6);
        due("18: what was put there later", well.read(0), 6);
        due("18: none", well.read(0), -1);
        due("18: none again", well.read(0), -1);
        due("18: none passed by that", well.left(0), 0);
        for (int reader : NO_THREES) {
            refused("18: read of " + reader, well, NO_SUCH, () -> well.read(reader));
        }
        refused("18: read when not open", well, SHUT, () -> well.read(1));
    }

    private static void promise19() {
        Well well = fiveOpen();
        well.make(1, 5);
        due("19: readPart", well.readPart(0, 1, 1, 2), 2);
        dueRow("19: what was read", well, 1, 0, 1, 2, 0, 0);
        due("19: none wanted", well.readPart(0, 1, 5, 0), 0);
        due("19: as many as there are", well.readPart(0, 1, 0, 5), 3);
        dueRow("19: the rest of the row stays", well, 1, 3, 4, 5, 0, 0);
        due("19: none left", well.readPart(0, 1, 0, 5), -1);
        due("19: none left and none wanted", well.readPart(0, 1, 0, 0), -1);
        dueRow("19: the row stays", well, 1, 3, 4, 5, 0, 0);
        for (int[] part : NO_PARTS) {
            refused("19: readPart from " + part[0] + " many " + part[1], well, NO_SUCH,
                () -> well.readPart(0, 1, part[0], part[1]));
            refused("19: of one not open, from " + part[0] + " many " + part[1], well, NO_SUCH,
                () -> well.readPart(1, 1, part[0], part[1]));
        }
        for (int row : NO_ROWS) {
            refused("19: readPart to row " + row, well, NO_SUCH, () -> well.readPart(0, row, 0, 0));
        }
        for (int reader : NO_THREES) {
            refused("19: readPart of " + reader, well, NO_SUCH, () -> well.readPart(reader, 1, 0, 1));
        }
        refused("19: readPart when not open", well, SHUT, () -> well.readPart(1, 1, 0, 0));
        promise19OfItsOwnArray();
    }

    private static void promise19OfItsOwnArray() {
        Well well = fiveOpen();
        due("19: into its own array", well.readPart(0, 0, 2, 3), 3);
        dueRow("19: as if put beside first", well, 0, 1, 2, 1, 2, 3);
        due("19: what is put ahead is read", well.read(0), 2);
        well = fiveOpen();
        well.read(0);
        due("19: downwards", well.readPart(0, 0, 0, 4), 4);
        dueRow("19: likewise", well, 0, 2, 3, 4, 5, 5);
    }

    private static void promise20() {
        Well well = fiveOpen();
        well.make(1, 5);
        due("20: readFull", well.readFull(0, 1, 1, 2), 2);
        dueRow("20: what was read", well, 1, 0, 1, 2, 0, 0);
        due("20: none wanted", well.readFull(0, 1, 5, 0), 0);
        due("20: as many as there are", well.readFull(0, 1, 2, 3), 3);
        dueRow("20: the rest of the row stays", well, 1, 0, 1, 3, 4, 5);
        due("20: none left", well.readFull(0, 1, 0, 5), 0);
        due("20: none left and none wanted", well.readFull(0, 1, 0, 0), 0);
        for (int[] part : NO_PARTS) {
            refused("20: readFull from " + part[0] + " many " + part[1], well, NO_SUCH,
                () -> well.readFull(0, 1, part[0], part[1]));
            refused("20: into its own from " + part[0] + " many " + part[1], well, NO_SUCH,
                () -> well.readFull(0, 0, part[0], part[1]));
            refused("20: of one not open, from " + part[0] + " many " + part[1], well, NO_SUCH,
                () -> well.readFull(1, 1, part[0], part[1]));
        }
        for (int row : NO_ROWS) {
            refused("20: readFull to row " + row, well, NO_SUCH, () -> well.readFull(0, row, 0, 0));
        }
        for (int reader : NO_THREES) {
            refused("20: readFull of " + reader, well, NO_SUCH, () -> well.readFull(reader, 1, 0, 1));
        }
        refused("20: readFull when not open", well, SHUT, () -> well.readFull(1, 0, 0, 1));
        refused("20: its own array, none left", well, ILLEGAL, () -> well.readFull(0, 0, 0, 1));
        well.back(0);
        refused("20: its own array", well, ILLEGAL, () -> well.readFull(0, 0, 0, 1));
        refused("20: its own array, none wanted", well, ILLEGAL, () -> well.readFull(0, 0, 0, 0));
        well.lend(0, 2);
        refused("20: its own array, lent", well, ILLEGAL, () -> well.readFull(0, 2, 0, 1));
        set(well, 0, 1, 2, 3, 4, 5);
        due("20: one that is only like it", well.readFull(0, 0, 0, 5), 5);
        well.open(0, 3);
        refused("20: its own array, empty", well, ILLEGAL, () -> well.readFull(0, 3, 0, 0));
    }

    private static void promise21() {
        Well well = fiveOpen();
        well.lend(0, 2);
        due("21: readSome", well.readSome(0, 1, 2), 2);
        dueRow("21: what was read", well, 1, 1, 2);
        well.put(1, 0, 30);
        due("21: it is another array", well.get(0, 0), 1);
        due("21: into the row that it reads", well.readSome(0, 0, 1), 1);
        dueRow("21: that is another one then", well, 0, 3);
        dueRow("21: the former one stays", well, 2, 1, 2, 3, 4, 5);
        due("21: and the reader goes on with it", well.left(0), 2);
        due("21: none wanted", well.readSome(0, 1, 0), 0);
        due("21: the row is empty", well.length(1), 0);
        due("21: as many as there are", well.readSome(0, 1, MAX), 2);
        dueRow("21: those", well, 1, 4, 5);
        due("21: none left", well.readSome(0, 1, 3), 0);
        due("21: the row is empty too", well.length(1), 0);
        for (int row : NO_ROWS) {
            refused("21: readSome to row " + row, well, NO_SUCH, () -> well.readSome(0, row, -1));
        }
        for (int reader : NO_THREES) {
            refused("21: readSome of " + reader, well, NO_SUCH, () -> well.readSome(reader, 1, -1));
        }
        for (int many : new int[] {-1, MIN}) {
            refused("21: readSome of " + many, well, ILLEGAL, () -> well.readSome(0, 0, many));
            refused("21: of one not open, of " + many, well, ILLEGAL, () -> well.readSome(1, 0, many));
        }
        refused("21: readSome when not open", well, SHUT, () -> well.readSome(1, 0, 0));
    }

    private static void promise22() {
        Well well = new Well();
        set(well, 0, 0, 1, 2, 3, 0x80, 255, 127, 254, 9, 9, 9);
        well.open(0, 0);
        due("22: readNumber", well.readNumber(0), 66051);
        due("22: a negative one", well.readNumber(0), 0x80FF7FFE);
        refused("22: three bytes left", well, FEWER, () -> well.readNumber(0));
        due("22: none was read", well.left(0), 3);
        well.skip(0, 3);
        refused("22: none left", well, FEWER, () -> well.readNumber(0));
        well.writeNumber(0, -123456789);
        well.take(0, 1);
        well.open(1, 1);
        due("22: what was written", well.readNumber(1), -123456789);
        due("22: and no more", well.left(1), 0);
        for (int reader : NO_THREES) {
            refused("22: readNumber of " + reader, well, NO_SUCH, () -> well.readNumber(reader));
        }
        refused("22: readNumber when not open", well, SHUT, () -> well.readNumber(2));
    }

    private static void promise23() {
        Well well = new Well();
        set(well, 0, 65, -66, 10, 10, 67, 10, 13, 68);
        well.open(0, 0);
        due("23: readLine", well.readLine(0, 1), 2);
        dueRow("23: without its end", well, 1, 65, -66);
        due("23: which is passed", well.left(0), 5);
        due("23: an empty line", well.readLine(0, 1), 0);
        due("23: the row is empty", well.length(1), 0);
        due("23: into the row that it reads", well.readLine(0, 0), 1);
        dueRow("23: that is another one then", well, 0, 67);
        due("23: all that are left", well.readLine(0, 1), 2);
        dueRow("23: those", well, 1, 13, 68);
        due("23: none left", well.readLine(0, 1), -1);
        dueRow("23: the row stays", well, 1, 13, 68);
        set(well, 2, 5, 10);
        well.open(1, 2);
        well.readLine(1, 0);
        due("23: none behind the last line's end", well.readLine(1, 0), -1);
        due("23: a line is counted whole", well.isTrue(), true);
        for (int row : NO_ROWS) {
            refused("23: readLine to row " + row, well, NO_SUCH, () -> well.readLine(0, row));
            refused("23: of one not open, to row " + row, well, NO_SUCH, () -> well.readLine(2, row));
        }
        for (int reader : NO_THREES) {
            refused("23: readLine of " + reader, well, NO_SUCH, () -> well.readLine(reader, 1));
        }
        refused("23: readLine when not open", well, SHUT, () -> well.readLine(2, 1));
    }

    private static void promise24() {
        Well well = new Well();
        set(well, 0, 7, 255, 7, 0, 128, 9);
        well.open(0, 0);
        due("24: find the next", well.find(0, 7), 1);
        due("24: find 255", well.find(0, 255), 1);
        due("24: find 128", well.find(0, 128), 3);
        due("24: none of it", well.find(0, 7), -2);
        due("24: all was read", well.left(0), 0);
        due("24: none left", well.find(0, 7), -1);
        due("24: none left, nor a byte", well.find(0, -1), -1);
        for (int number : new int[] {-1, 256, 263, -249, -128, MIN, MAX}) {
            well.back(0);
            due("24: another one is none: " + number, well.find(0, number), -7);
            due("24: and all was read", well.left(0), 0);
        }
        well.back(0);
        due("24: the last one", well.find(0, 9), 6);
        well.back(0);
        well.put(0, 1, 9);
        due("24: what was put there later", well.find(0, 9), 2);
        for (int reader : NO_THREES) {
            refused("24: find of " + reader, well, NO_SUCH, () -> well.find(reader, 7));
        }
        refused("24: find when not open", well, SHUT, () -> well.find(1, 7));
    }

    private static void promise25() {
        Well well = fiveOpen();
        due("25: skip", well.skip(0, 2), 2L);
        due("25: the next one", well.read(0), 3);
        due("25: none wanted", well.skip(0, 0), 0L);
        due("25: as many as there are", well.skip(0, 3), 2L);
        due("25: none left", well.skip(0, 1), 0L);
        well.back(0);
        due("25: many wanted", well.skip(0, Long.MAX_VALUE), 5L);
        well.back(0);
        due("25: more than an int", well.skip(0, 1L << 32), 5L);
        for (int reader : NO_THREES) {
            refused("25: skip of " + reader, well, NO_SUCH, () -> well.skip(reader, -1));
        }
        for (long many : new long[] {-1, MIN, Long.MIN_VALUE, -(1L << 32)}) {
            refused("25: skip of " + many, well, ILLEGAL, () -> well.skip(0, many));
            refused("25: of one not open, of " + many, well, ILLEGAL, () -> well.skip(1, many));
        }
        refused("25: skip when not open", well, SHUT, () -> well.skip(1, 0));
    }

    private static void promise26() {
        Well well = fiveOpen();
        due("26: left", well.left(0), 5);
        well.read(0);
        due("26: left of four", well.left(0), 4);
        well.skip(0, 9);
        due("26: left of none", well.left(0), 0);
        well.open(1, 3);
        due("26: left of an empty row", well.left(1), 0);
        for (int reader : NO_THREES) {
            refused("26: left of " + reader, well, NO_SUCH, () -> well.left(reader));
        }
        refused("26: left when not open", well, SHUT, () -> well.left(2));
    }

    private static void promise27() {
        Well well = fiveOpen();
        for (int limit : new int[] {0, 1, -3, MIN, MAX}) {
            well.open(0, 0);
            well.read(0);
            due("27: mark with limit " + limit, well.mark(0, limit), 4);
            due("27: it reads on", well.read(0), 2);
            well.skip(0, 9);
            due("27: back to it after all limits", well.back(0), 4);
        }
        well.skip(0, 3);
        well.mark(0, 0);
        well.read(0);
        due("27: the last mark holds", well.back(0), 1);
        well.open(1, 0);
        due("27: another reader has no mark", well.back(1), 5);
        for (int reader : NO_THREES) {
            refused("27: mark of " + reader, well, NO_SUCH, () -> well.mark(reader, 1));
        }
        refused("27: mark when not open", well, SHUT, () -> well.mark(2, 1));
    }

    private static void promise28() {
        Well well = fiveOpen();
        well.skip(0, 4);
        due("28: back to its begin", well.back(0), 5);
        due("28: and again", well.back(0), 5);
        due("28: where it reads", well.read(0), 1);
        well.mark(0, 0);
        well.skip(0, 2);
        due("28: back to its mark", well.back(0), 4);
        well.skip(0, 4);
        due("28: as often as one likes", well.back(0), 4);
        well.put(0, 1, 20);
        due("28: what is put there then is read", well.read(0), 20);
        due("28: what was passed is counted", well.isTrue(), true);
        for (int reader : NO_THREES) {
            refused("28: back of " + reader, well, NO_SUCH, () -> well.back(reader));
        }
        refused("28: back when not open", well, SHUT, () -> well.back(1));
    }

    private static void promise29() {
        Well well = fiveOpen();
        well.write(1, -9);
        well.read(0);
        due("29: pour", well.pour(0, 1), 4);
        dueGatherer("29: what was left", well, 1, -9, 2, 3, 4, 5);
        due("29: none is left", well.left(0), 0);
        due("29: pour of none", well.pour(0, 1), 0);
        due("29: the size stays", well.size(1), 5);
        well.put(0, 1, 77);
        dueGatherer("29: what was poured stays", well, 1, -9, 2, 3, 4, 5);
        for (int reader : NO_THREES) {
            refused("29: pour of " + reader, well, NO_SUCH, () -> well.pour(reader, 1));
            refused("29: pour to " + reader, well, NO_SUCH, () -> well.pour(0, reader));
            refused("29: of one not open, to " + reader, well, NO_SUCH, () -> well.pour(1, reader));
        }
        refused("29: pour when not open", well, SHUT, () -> well.pour(1, 1));
        gathered(well, 2, 252);
        well.back(0);
        refused("29: more than there is room for", well, FULL, () -> well.pour(0, 2));
        well.read(0);
        due("29: just as much", well.pour(0, 2), 4);
        due("29: none when full", well.pour(0, 2), 0);
        refused("29: not open comes first", well, SHUT, () -> well.pour(2, 2));
    }

    private static void promise30() {
        Well well = fiveOpen();
        due("30: pourParts", well.pourParts(0, 0, 2), 3);
        dueGatherer("30: the same as at once", well, 0, 1, 2, 3, 4, 5);
        due("30: none is left", well.left(0), 0);
        due("30: none left", well.pourParts(0, 0, 2), 0);
        int[] parts = {5, 3, 2, 2, 1, 1, 1};
        int[] sizes = {1, 2, 3, 4, 5, 6, 64};
        for (int i = 0; i < sizes.length; i++) {
            well.back(0);
            due("30: by parts of " + sizes[i], well.pourParts(0, 1, sizes[i]), parts[i]);
            due("30: all of them", well.empty(1), 5);
        }
        for (int reader : NO_THREES) {
            refused("30: pourParts of " + reader, well, NO_SUCH, () -> well.pourParts(reader, 0, 0));
            refused("30: pourParts to " + reader, well, NO_SUCH, () -> well.pourParts(0, reader, 0));
        }
        for (int part : new int[] {0, -1, 65, MIN, MAX}) {
            refused("30: by parts of " + part, well, ILLEGAL, () -> well.pourParts(0, 0, part));
            refused("30: of one not open, by " + part, well, ILLEGAL, () -> well.pourParts(1, 0, part));
        }
        refused("30: pourParts when not open", well, SHUT, () -> well.pourParts(1, 0, 64));
        gathered(well, 2, 252);
        well.back(0);
        refused("30: more than there is room for", well, FULL, () -> well.pourParts(0, 2, 1));
        refused("30: not open comes first", well, SHUT, () -> well.pourParts(1, 2, 1));
        well.read(0);
        due("30: just as much", well.pourParts(0, 2, 3), 2);
        due("30: none when full", well.pourParts(0, 2, 3), 0);
        well.make(0, 256);
        well.open(2, 0);
        due("30: a whole row by single bytes", well.pourParts(2, 1, 1), 256);
        due("30: what was passed is counted", well.isTrue(), true);
    }

    private static void promise31() {
        Well well = new Well();
        set(well, 0, 1, 2, 3, 4);
        set(well, 1, 9, 1, 2, 3, 255);
        well.open(0, 0);
        well.open(1, 1);
        due("31: nothing alike", well.alike(0, 1), 0);
        due("31: the first stays", well.left(0), 4);
        due("31: the other stays", well.left(1), 5);
        well.read(1);
        due("31: alike", well.alike(0, 1), 3);
        due("31: the first behind them", well.left(0), 1);
        due("31: the other behind them", well.left(1), 1);
        due("31: both have counted them", well.isTrue(), true);
        well.skip(0, 1);
        well.skip(1, 1);
        due("31: the first is marked there", well.back(0), 1);
        due("31: the other is marked there", well.back(1), 1);
        well.put(0, 3, -1);
        due("31: up to the end", well.alike(1, 0), 1);
        due("31: marked at the end", well.back(0) + well.back(1), 0);
        due("31: none left", well.alike(0, 1), 0);
        well.lend(0, 2);
        well.open(0, 0);
        well.open(1, 2);
        due("31: on the same array", well.alike(0, 1), 4);
        well.open(0, 3);
        well.open(1, 2);
        due("31: with an empty one", well.alike(0, 1), 0);
        due("31: what was passed is counted", well.isTrue(), true);
        for (int reader : NO_THREES) {
            refused("31: alike of " + reader, well, NO_SUCH, () -> well.alike(reader, 0));
            refused("31: alike with " + reader, well, NO_SUCH, () -> well.alike(0, reader));
            refused("31: alike of both " + reader, well, NO_SUCH, () -> well.alike(reader, reader));
        }
        refused("31: alike with itself", well, ILLEGAL, () -> well.alike(1, 1));
        refused("31: alike with itself, not open", well, ILLEGAL, () -> well.alike(2, 2));
        refused("31: the first not open", well, SHUT, () -> well.alike(2, 1));
        refused("31: the other not open", well, SHUT, () -> well.alike(1, 2));
    }

    private static void promise32() {
        Well well = new Well();
        set(well, 0, 1, 2, 3);
        well.open(0, 0);
        due("32: all left", well.leftShare(0), 1.0f);
        well.read(0);
        due("32: two of three", well.leftShare(0), 2.0f / 3.0f);
        well.skip(0, 2);
        due("32: none left", well.leftShare(0), 0.0f);
        well.open(1, 3);
        refused("32: an empty array", well, NO_SHARE, () -> well.leftShare(1));
        for (int reader : NO_THREES) {
            refused("32: leftShare of " + reader, well, NO_SUCH, () -> well.leftShare(reader));
        }
        refused("32: leftShare when not open", well, SHUT, () -> well.leftShare(2));
    }

    private static void promise33() {
        Well well = new Well();
        refused("33: none has bytes", well, NO_SHARE, well::meanSize);
        gathered(well, 0, 1);
        due("33: of one byte", well.meanSize(), 1.0);
        gathered(well, 0, 2);
        due("33: of one", well.meanSize(), 3.0);
        gathered(well, 2, 4);
        due("33: of two", well.meanSize(), 3.5);
        gathered(well, 1, 3);
        due("33: of three", well.meanSize(), 10.0 / 3.0);
        well.empty(0);
        well.empty(1);
        well.empty(2);
        refused("33: none has bytes again", well, NO_SHARE, well::meanSize);
    }

    private static void promise34() {
        Well well = new Well();
        due("34: of a new one", well.checksum(), sumOf(0, 0, 0, 0, 0, 0, 0, -1, -1, -1));
        set(well, 0, 5, -6);
        set(well, 2, 7);
        gathered(well, 1, 2);
        well.write(1, 200);
        well.open(2, 0);
        well.read(2);
        due("34: each in its turn", well.checksum(),
            sumOf(2, 5, -6, 0, 1, 7, 0, 0, 3, 0, 1, -56, 0, -1, -1, 1));
        set(well, 1, 70, 71, 72);
        well.write(0, 30);
        well.write(2, -40);
        well.open(0, 1);
        due("34: each in its turn, when no two are alike", well.checksum(),
            sumOf(2, 5, -6, 3, 70, 71, 72, 1, 7, 0, 1, 30, 3, 0, 1, -56, 1, -40, 3, -1, 1));
        well.empty(0);
        well.empty(2);
        well.make(1, 0);
        well.skip(0, 3);
        well.empty(1);
        due("34: nothing of what was emptied", well.checksum(),
            sumOf(2, 5, -6, 0, 1, 7, 0, 0, 0, 0, 0, -1, 1));
        well.make(3, 256);
        well.fill(3, 0, 256, 100, 3);
        long[] members = new long[270];
        System.arraycopy(new long[] {2, 5, -6, 0, 1, 7, 256}, 0, members, 0, 7);
        for (int i = 0; i < 256; i++) {
            members[7 + i] = (byte) (100 + 3 * i);
        }
        System.arraycopy(new long[] {0, 0, 0, 0, -1, 1}, 0, members, 263, 6);
        due("34: a long that goes round", well.checksum(), sumOf(java.util.Arrays.copyOf(members, 269)));
    }

    private static long sumOf(long... members) {
        long sum = 7;
        for (long member : members) {
            sum = sum * 31 + member;
        }
        return sum;
    }

    private static void promise35() {
        Well well = fiveOpen();
        due("35: with one open", well.isTrue(), true);
        well.make(1, 5);
        well.read(0);
        well.readPart(0, 1, 0, 1);
        well.readFull(0, 1, 0, 1);
        well.mark(0, 0);
        well.readSome(0, 1, 1);
        well.find(0, 0);
        due("35: after readings", well.isTrue(), true);
        well.back(0);
        due("35: after going back", well.isTrue(), true);
        well.make(0, 256);
        well.fill(0, 0, 256, 0, 1);
        well.open(1, 0);
        well.readNumber(1);
        well.readLine(1, 1);
        well.skip(1, 100);
        well.pourParts(1, 0, 7);
        due("35: after pouring by parts", well.isTrue(), true);
        well.open(2, 0);
        well.alike(1, 2);
        well.pour(2, 1);
        gathered(well, 2, 256);
        due("35: with all full", well.isTrue(), true);
        well.back(2);
        due("35: with all full, back", well.isTrue(), true);
        long before = well.checksum();
        well.isTrue();
        due("35: nothing is changed by it", well.checksum(), before);
        well.take(2, 3);
        due("35: nor what the gatherers have", well.get(3, 255), -1);
        well.empty(2);
        due("35: with one emptied", well.isTrue(), true);
    }
}
