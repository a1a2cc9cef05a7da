import java.util.NoSuchElementException;

/** What the tests of the boundary cases share; it is no test. */
abstract class Edges {
    static final Class<IndexOutOfBoundsException> NO_SUCH = IndexOutOfBoundsException.class;
    static final Class<IllegalArgumentException> ILLEGAL = IllegalArgumentException.class;
    static final Class<IllegalStateException> FULL = IllegalStateException.class;
    static final Class<UnsupportedOperationException> SHUT = UnsupportedOperationException.class;
    static final Class<NoSuchElementException> FEWER = NoSuchElementException.class;
    static final Class<ArithmeticException> NO_SHARE = ArithmeticException.class;

    static final int MIN = Integer.MIN_VALUE;
    static final int MAX = Integer.MAX_VALUE;

    static final int[] NO_ROWS = {-1, 4, -4, 256, MIN, MAX};
    /** Neither readers nor gatherers. */
    static final int[] NO_THREES = {-1, 3, -3, 4, 256, MIN, MAX};

    /** First places and how many of which a row of five bytes has not all. */
    static final int[][] NO_PARTS_OF_FIVE = {
        {-1, 0}, {6, 0}, {MIN, 0}, {MAX, 0},
        {-1, 1}, {5, 1}, {4, 2}, {0, 6}, {1, 5}, {-1, 6}, {6, 1},
        {0, -1}, {1, -1}, {3, -1}, {5, -1}, {5, -5}, {6, -1}, {0, MIN}, {5, MIN},
        {1, MAX}, {5, MAX}, {MAX, 1}, {MAX, 6}, {MAX, MAX}, {MIN, MIN}, {MIN, MAX}, {-1, MAX}, {MAX, MIN},
    };
    /** First places and how many of which a row of 256 bytes has not all. */
    static final int[][] NO_PARTS_OF_FULL = {
        {-1, 0}, {257, 0}, {-1, 1}, {256, 1}, {255, 2}, {0, 257}, {1, 256}, {256, -1}, {0, -1}, {256, -256},
        {1, MAX}, {256, MAX}, {MAX, 1},
    };
    /** First places and how many of which an empty row has not all. */
    static final int[][] NO_PARTS_OF_EMPTY = {
        {-1, 0}, {1, 0}, {0, 1}, {-1, 1}, {0, -1}, {1, -1}, {MIN, 0}, {MAX, 0}, {0, MAX}, {0, MIN}, {MIN, MIN},
    };

    /** Numbers, and the bytes that their lowest 8 bits are. */
    static final int[][] BYTES_OF_NUMBERS = {
        {0, 0}, {1, 1}, {-1, -1}, {127, 127}, {128, -128}, {129, -127}, {255, -1}, {256, 0}, {257, 1},
        {-127, -127}, {-128, -128}, {-129, 127}, {-255, 1}, {-256, 0}, {-257, -1},
        {383, 127}, {384, -128}, {65535, -1}, {65536, 0}, {MAX, -1}, {MAX - 128, 127}, {MIN, 0}, {MIN + 128, -128},
    };

    static void due(String what, Object got, Object want) {
        Check.due(what, got, want);
    }

    static void dueThrown(String what, Class<? extends RuntimeException> want, Check.Call call) {
        Check.dueThrown(what, want, call);
    }

    /** Of a busy() well. */
    static void refused(String what, Class<? extends RuntimeException> want, Check.Use use) {
        Check.refused(what, Edges::busy, want, use);
    }

    static void refused(String what, Check.Maker maker, Class<? extends RuntimeException> want, Check.Use use) {
        Check.refused(what, maker, want, use);
    }

    static void changesNothing(String what, Check.Maker maker, Object want, Check.Use use) {
        Check.changesNothing(what, maker, want, use);
    }

    /**
     * Rows 0 and 1 are the same array 1, 2, 3, 4, 5; row 2 is full, -128 to 127; row 3 is empty.
     * Gatherer 0 has room for four bytes, gatherer 1 is full, gatherer 2 is empty.
     * Reader 0 is on row 0 with two bytes left and four from its mark, reader 1 is on six bytes that no row is
     * any more with three left and four from its mark, reader 2 is not open.
     */
    static Well busy() {
        Well well = new Well();
        set(well, 0, 90, -91, 92, -93, 94, -95);
        well.open(1, 0);
        well.skip(1, 2);
        well.mark(1, 0);
        well.skip(1, 1);
        set(well, 0, 1, 2, 3, 4, 5);
        well.lend(0, 1);
        well.open(0, 0);
        well.skip(0, 1);
        well.mark(0, 0);
        well.skip(0, 2);
        full(well, 2);
        well.writePart(0, 2, 3, 252);
        well.writeRow(1, 2);
        return well;
    }

    /** The well is as busy() makes it, which is told here by calls that read and take, not by those that ask. */
    static void dueAsBusy(String what, Well well) {
        dueThrown(what + ", reader 2", SHUT, () -> well.read(2));
        due(what + ", reader 0", well.read(0) + " " + well.read(0) + " " + well.read(0), "4 5 -1");
        due(what + ", reader 0 back", well.back(0) + " " + well.read(0), "4 2");
        due(what + ", reader 1", well.read(1) + " " + well.read(1) + " " + well.read(1), "163 94 161");
        due(what + ", reader 1 at its end", well.read(1), -1);
        due(what + ", reader 1 back", well.back(1) + " " + well.read(1), "4 92");
        for (int i = 0; i < 5; i++) {
            due(what + ", row 0 at " + i, well.put(0, i, 70 + i), i + 1);
            due(what + ", row 1 at " + i, well.put(1, i, i), 70 + i);
        }
        due(what + ", row 2", well.put(2, 0, 1) + " " + well.put(2, 128, 1) + " " + well.put(2, 255, 1), "-128 0 127");
        due(what + ", made anew", well.make(0, 1) + " " + well.make(1, 1) + " " + well.make(2, 1), "5 5 256");
        due(what + ", row 3 made anew", well.make(3, 1), 0);
        due(what + ", gatherer 0", well.take(0, 3), 252);
        due(what + ", its bytes", well.put(3, 0, 0) + " " + well.put(3, 251, 0), "-125 126");
        due(what + ", gatherer 1", well.take(1, 3), 256);
        due(what + ", its bytes", well.put(3, 0, 0) + " " + well.put(3, 255, 0), "-128 127");
        due(what + ", gatherer 2", well.take(2, 3), 0);
    }

    /**
     * No row is empty, and no two are the same; all readers are open, each at another place, behind its mark;
     * gatherer 0 has five bytes, gatherer 1 is empty, gatherer 2 is full.
     */
    static Well crowded() {
        Well well = whole();
        well.writeRow(2, 2);
        set(well, 0, 1, 2, 3, 4, 5);
        well.writeRow(0, 0);
        set(well, 1, -1, 10, -3);
        set(well, 3, 99);
        well.open(0, 0);
        well.open(1, 1);
        for (int reader = 0; reader < 3; reader++) {
            well.skip(reader, reader);
            well.mark(reader, 0);
            well.skip(reader, 1);
        }
        return well;
    }

    /** Row 0 is 1, 2, 3, 4, 5, and reader 0 is at its begin; the rest is as in a new well. */
    static Well five() {
        Well well = new Well();
        set(well, 0, 1, 2, 3, 4, 5);
        well.open(0, 0);
        return well;
    }

    /** Row 2 is full, -128 to 127, and reader 2 is at its begin; the rest is as in a new well. */
    static Well whole() {
        Well well = new Well();
        full(well, 2);
        well.open(2, 2);
        return well;
    }

    static void full(Well well, int row) {
        well.make(row, 256);
        well.fill(row, 0, 256, -128, 1);
    }

    static void set(Well well, int row, int... bytes) {
        well.make(row, bytes.length);
        for (int i = 0; i < bytes.length; i++) {
            well.put(row, i, bytes[i]);
        }
    }

    static String bytesOf(Well well, int row) {
        StringBuilder told = new StringBuilder();
        int length = well.length(row);
        for (int i = 0; i < length; i++) {
            told.append(' ').append(well.get(row, i));
        }
        return told.toString();
    }

    static void dueRow(String what, Well well, int row, int... want) {
        due(what, bytesOf(well, row), told(want));
    }

    /** It opens the reader on the row. */
    static void dueRead(String what, Well well, int reader, int row, int... want) {
        well.open(reader, row);
        dueAhead(what, well, reader, want);
    }

    /** What is ahead of the reader, byte by byte as read() tells them, 0 to 255. */
    static void dueAhead(String what, Well well, int reader, int... want) {
        StringBuilder got = new StringBuilder();
        for (int next = well.read(reader); next != -1; next = well.read(reader)) {
            got.append(' ').append(next);
        }
        due(what, got.toString(), told(want));
    }

    /** It takes what the gatherer has into the row. */
    static void dueGathered(String what, Well well, int gatherer, int row, int... want) {
        due(what + ", its size", well.size(gatherer), want.length);
        due(what + ", taken", well.take(gatherer, row), want.length);
        dueRow(what, well, row, want);
    }

    private static String told(int[] numbers) {
        StringBuilder told = new StringBuilder();
        for (int number : numbers) {
            told.append(' ').append(number);
        }
        return told.toString();
    }

    /** The row gets so many bytes, and the gatherer, empty before, just these. */
    static void gather(Well well, int gatherer, int row, int many) {
        well.make(row, many);
        well.fill(row, 0, many, 7, 3);
        well.empty(gatherer);
        well.writeRow(gatherer, row);
    }

    /** The reader is opened on so many bytes, of which so many are left; the row has them. */
    static void openWithLeft(Well well, int reader, int row, int many, int left) {
        well.make(row, many);
        well.fill(row, 0, many, 7, 3);
        well.open(reader, row);
        well.skip(reader, many - left);
    }

    static boolean areSameArray(Well well, int row, int other) {
        well.open(2, row);
        return Check.outcome(() -> well.readFull(2, other, 0, 0)).equals("throws.IllegalArgumentException");
    }
}
