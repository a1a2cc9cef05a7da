/** The boundary cases of promises 16 and 17, and 26 to 31, a test for each sentence that names one. */
public final class EdgesOfReadersTest extends Edges {
    private EdgesOfReadersTest() {
    }

    public static void main(String[] args) {
        Check.runAll(EdgesOfReadersTest.class);
    }

    /** As busy(), but reader 0 is at the end of its row; from its mark on there are four bytes. */
    private static Well atEnd() {
        Well well = busy();
        well.skip(0, 2);
        return well;
    }

    /** As busy(), but reader 2 is open on the empty row 3. */
    private static Well onEmpty() {
        Well well = busy();
        well.open(2, 3);
        return well;
    }

    /** Reader 0 has so many left of a row that is two bytes longer, and gatherer 0 has so many bytes. */
    private static Well pouring(int left, int gathered) {
        Well well = new Well();
        openWithLeft(well, 0, 0, Math.min(left + 2, 256), left);
        gather(well, 0, 1, gathered);
        return well;
    }

    // Promise 16: open

    static void promise16AnswersHowManyAreLeftOfEmptyAndFull() {
        for (int length : new int[] {0, 1, 127, 128, 255, 256}) {
            Well well = new Well();
            well.make(1, length);
            due("open(0, 1)", well.open(0, 1), length);
            due("left", well.left(0), length);
            due("again", well.open(0, 1), length);
        }
    }

    static void promise16TakesReaders0To2AndRows0To3() {
        for (int reader = 0; reader < 3; reader++) {
            for (int row = 0; row < 4; row++) {
                Well well = new Well();
                for (int i = 0; i < 4; i++) {
                    well.make(i, 10 + i);
                }
                due("open(" + reader + ", " + row + ")", well.open(reader, row), 10 + row);
                for (int i = 0; i < 3; i++) {
                    due("isOpen(" + i + ") after it", well.isOpen(i), i == reader);
                }
            }
        }
    }

    static void promise16RefusesOtherReadersAndRows() {
        for (int reader : NO_THREES) {
            refused("open(" + reader + ", 0)", NO_SUCH, well -> well.open(reader, 0));
            refused("open(" + reader + ", -1)", NO_SUCH, well -> well.open(reader, -1));
        }
        for (int row : NO_ROWS) {
            for (int reader = 0; reader < 3; reader++) {
                int here = reader;
                refused("open(" + reader + ", " + row + ")", NO_SUCH, well -> well.open(here, row));
            }
        }
    }

    static void promise16OpenedAgainItIsAtTheBegin() {
        Well well = atEnd();
        due("at the end, open(0, 0)", well.open(0, 0), 5);
        due("the next", well.read(0), 1);
        due("after one, open(0, 0)", well.open(0, 0), 5);
        due("the next", well.read(0), 1);
    }

    static void promise16OpenedAgainItHasNoMark() {
        Well well = busy();
        well.open(0, 0);
        well.read(0);
        due("on the same row", well.back(0), 5);
        well.skip(0, 5);
        well.mark(0, 9);
        well.open(0, 2);
        well.read(0);
        due("on another row", well.back(0), 256);
        well.skip(0, 256);
        well.mark(0, 9);
        well.open(0, 3);
        due("on an empty row", well.back(0), 0);
    }

    static void promise16OpenedAgainItGetsTheArrayThatTheRowIsThen() {
        Well well = five();
        set(well, 0, 8, 9);
        due("the former one", well.left(0), 5);
        due("open(0, 0)", well.open(0, 0), 2);
        dueAhead("the row then", well, 0, 8, 9);
        well.lend(2, 0);
        due("lent an empty one", well.open(0, 0), 0);
        due("none", well.read(0), -1);
    }

    static void promise16ReadersOfOneRowAreApart() {
        Well well = five();
        well.open(1, 0);
        well.open(2, 0);
        well.read(0);
        well.skip(1, 2);
        well.mark(1, 0);
        due("the first", well.left(0), 4);
        due("the second", well.left(1), 3);
        due("the third", well.left(2), 5);
        due("the first back", well.back(0), 5);
        due("the third back", well.back(2), 5);
    }

    // Promise 17: isOpen

    static void promise17IsFalseUntilItIsOpened() {
        for (int reader = 0; reader < 3; reader++) {
            int here = reader;
            changesNothing("isOpen(" + reader + ") of a new one", Well::new, false, well -> well.isOpen(here));
            Well well = new Well();
            dueThrown("open(" + reader + ", 4)", NO_SUCH, () -> well.open(here, 4));
            due("after a refused open", well.isOpen(reader), false);
            dueThrown("read(" + reader + ")", SHUT, () -> well.read(here));
            due("after a refused read", well.isOpen(reader), false);
            well.open((reader + 1) % 3, 0);
            due("when another one is open", well.isOpen(reader), false);
            well.open(reader, 0);
            due("when it is", well.isOpen(reader), true);
        }
    }

    static void promise17IsTrueThenAlsoOnAnEmptyRowAndAtTheEnd() {
        changesNothing("on an empty row", EdgesOfReadersTest::onEmpty, true, well -> well.isOpen(2));
        changesNothing("at the end", EdgesOfReadersTest::atEnd, true, well -> well.isOpen(0));
        Well well = five();
        well.pour(0, 0);
        well.read(0);
        well.make(0, 0);
        due("poured, read over, and its row made anew", well.isOpen(0), true);
    }

    static void promise17RefusesOtherReaders() {
        for (int reader : NO_THREES) {
            refused("isOpen(" + reader + ")", NO_SUCH, well -> well.isOpen(reader));
        }
    }

    // Promise 26: left

    static void promise26OfEmptyAndFull() {
        changesNothing("at the end", EdgesOfReadersTest::atEnd, 0, well -> well.left(0));
        changesNothing("on an empty row", EdgesOfReadersTest::onEmpty, 0, well -> well.left(2));
        changesNothing("at the begin of a full row", Edges::whole, 256, well -> well.left(2));
        changesNothing("with two left", Edges::busy, 2, well -> well.left(0));
    }

    static void promise26OfEachPlaceOfAFullRow() {
        for (int passed = 0; passed <= 256; passed++) {
            Well well = whole();
            well.skip(2, passed);
            due("left(2)", well.left(2), 256 - passed);
        }
    }

    static void promise26BehindTheEndItStays0() {
        Well well = atEnd();
        well.read(0);
        due("after read", well.left(0), 0);
        well.skip(0, Long.MAX_VALUE);
        due("after skip", well.left(0), 0);
        well.readPart(0, 0, 0, 5);
        due("after readPart", well.left(0), 0);
        well.find(0, 1);
        due("after find", well.left(0), 0);
        well.readLine(0, 3);
        due("after readLine", well.left(0), 0);
    }

    static void promise26RefusesOtherReaders() {
        for (int reader : NO_THREES) {
            refused("left(" + reader + ")", NO_SUCH, well -> well.left(reader));
        }
    }

    static void promise26RefusesOneThatIsNotOpen() {
        refused("left(2)", SHUT, well -> well.left(2));
    }

    // Promise 27: mark

    static void promise27TheLimitHasNoMeaning() {
        for (int limit : new int[] {MIN, -256, -1, 0, 1, 2, 255, 256, 257, MAX}) {
            Well well = whole();
            well.skip(2, 10);
            due("mark(2, " + limit + ")", well.mark(2, limit), 246);
            due("the next", well.read(2), 138);
            due("back after one", well.back(2), 246);
            well.skip(2, 246);
            due("back after all", well.back(2), 246);
            due("the next", well.read(2), 138);
        }
    }

    static void promise27AtTheBeginAndAtTheEnd() {
        Well well = five();
        due("at the begin", well.mark(0, 1), 5);
        well.skip(0, 5);
        due("back", well.back(0), 5);
        well.skip(0, 5);
        due("at the end", well.mark(0, 1), 0);
        due("back", well.back(0), 0);
        due("none", well.read(0), -1);
        due("back", well.back(0), 0);
    }

    static void promise27OnAnEmptyRow() {
        changesNothing("mark(2, 5)", EdgesOfReadersTest::onEmpty, 0, well -> well.mark(2, 5));
    }

    static void promise27TheLastMarkHolds() {
        Well well = five();
        well.skip(0, 4);
        well.mark(0, 100);
        well.open(1, 0);
        well.read(1);
        due("the last one", well.mark(0, 0), 1);
        well.back(0);
        well.mark(0, 0);
        well.read(0);
        due("it again", well.back(0), 1);
        well.open(0, 0);
        well.skip(0, 3);
        well.mark(0, 0);
        well.open(0, 0);
        well.skip(0, 1);
        due("one that is before it", well.mark(0, 0), 4);
        well.skip(0, 3);
        due("back", well.back(0), 4);
    }

    static void promise27OtherReadersHaveMarksOfTheirOwn() {
        Well well = five();
        well.open(1, 0);
        well.skip(0, 2);
        well.skip(1, 3);
        well.mark(0, 0);
        due("another one", well.back(1), 5);
        due("this one", well.back(0), 3);
    }

    static void promise27RefusesOtherReaders() {
        for (int reader : NO_THREES) {
            refused("mark(" + reader + ", 1)", NO_SUCH, well -> well.mark(reader, 1));
            refused("mark(" + reader + ", -1)", NO_SUCH, well -> well.mark(reader, -1));
        }
    }

    static void promise27RefusesOneThatIsNotOpen() {
        refused("mark(2, 1)", SHUT, well -> well.mark(2, 1));
        refused("mark(2, MIN)", SHUT, well -> well.mark(2, MIN));
    }

    // Promise 28: back

    static void promise28WithoutAMarkToItsBegin() {
        changesNothing("at its begin", Edges::five, 5, well -> well.back(0));
        Well well = five();
        well.read(0);
        due("after one", well.back(0), 5);
        well.skip(0, 5);
        due("at the end", well.back(0), 5);
        due("the next", well.read(0), 1);
    }

    static void promise28ToItsMark() {
        Well well = busy();
        due("two behind it", well.back(0), 4);
        due("at it", well.back(0), 4);
        due("the next", well.read(0), 2);
        due("at the end", atEnd().back(0), 4);
        due("of an array that no row is any more", well.back(1), 4);
        due("its next", well.read(1), 92);
    }

    static void promise28AsOftenAsOneLikes() {
        Well well = busy();
        well.mark(0, 0);
        for (int i = 0; i < 100; i++) {
            due("the next", well.read(0), 4);
            due("back", well.back(0), 2);
        }
        well.open(0, 0);
        for (int i = 0; i < 100; i++) {
            due("the next", well.read(0), 1);
            due("back", well.back(0), 5);
        }
    }

    static void promise28OfEmptyAndFull() {
        changesNothing("on an empty row", EdgesOfReadersTest::onEmpty, 0, well -> well.back(2));
        Well well = whole();
        well.skip(2, 256);
        due("a full row", well.back(2), 256);
        due("the next", well.read(2), 128);
    }

    static void promise28AfterARefusedCall() {
        Well well = five();
        well.skip(0, 2);
        dueThrown("readNumber(0)", FEWER, () -> well.readNumber(0));
        dueThrown("alike(0, 0)", ILLEGAL, () -> well.alike(0, 0));
        dueThrown("alike(0, 1)", SHUT, () -> well.alike(0, 1));
        due("back", well.back(0), 5);
    }

    static void promise28RefusesOtherReaders() {
        for (int reader : NO_THREES) {
            refused("back(" + reader + ")", NO_SUCH, well -> well.back(reader));
        }
    }

    static void promise28RefusesOneThatIsNotOpen() {
        refused("back(2)", SHUT, well -> well.back(2));
    }

    // Promise 29: pour

    static void promise29OfNoneLeft() {
        for (int gatherer = 0; gatherer < 3; gatherer++) {
            int here = gatherer;
            changesNothing("pour(0, " + gatherer + ")", EdgesOfReadersTest::atEnd, 0, well -> well.pour(0, here));
            changesNothing("pour(2, " + gatherer + ")", EdgesOfReadersTest::onEmpty, 0, well -> well.pour(2, here));
        }
    }

    static void promise29PoursUpTo256() {
        int[][] fitting = {{256, 0}, {255, 1}, {255, 0}, {4, 252}, {1, 255}, {0, 256}, {1, 0}};
        for (int[] pair : fitting) {
            Well well = pouring(pair[0], pair[1]);
            due(pair[0] + " to " + pair[1], well.pour(0, 0), pair[0]);
            due("size", well.size(0), pair[0] + pair[1]);
            due("left", well.left(0), 0);
            dueTakenOf(well, pair[0], pair[1]);
        }
    }

    /** Of a pouring() well: what the gatherer had, and behind it what was left in row 0. */
    private static void dueTakenOf(Well well, int left, int gathered) {
        well.take(0, 3);
        int passed = well.length(0) - left;
        for (int i = 0; i < gathered; i++) {
            due("byte " + i, well.get(3, i), (int) (byte) (7 + 3 * i));
        }
        for (int i = 0; i < left; i++) {
            due("poured byte " + i, well.get(3, gathered + i), (int) (byte) (7 + 3 * (passed + i)));
        }
    }

    static void promise29RefusesMoreThan256() {
        int[][] toomany = {{256, 1}, {255, 2}, {5, 252}, {2, 255}, {1, 256}, {256, 256}};
        for (int[] pair : toomany) {
            refused(pair[0] + " to " + pair[1], () -> pouring(pair[0], pair[1]), FULL, well -> well.pour(0, 0));
        }
        refused("two to a full one", FULL, well -> well.pour(0, 1));
    }

    static void promise29RefusesOtherReadersAndGatherers() {
        for (int number : NO_THREES) {
            for (int other = 0; other < 3; other++) {
                int here = other;
                refused("pour(" + number + ", " + other + ")", NO_SUCH, well -> well.pour(number, here));
                refused("pour(" + other + ", " + number + ")", NO_SUCH, well -> well.pour(here, number));
            }
            refused("pour(0, " + number + ") of none left", EdgesOfReadersTest::atEnd, NO_SUCH,
                well -> well.pour(0, number));
        }
    }

    static void promise29RefusesOneThatIsNotOpen() {
        for (int gatherer = 0; gatherer < 3; gatherer++) {
            int here = gatherer;
            refused("pour(2, " + gatherer + ")", SHUT, well -> well.pour(2, here));
        }
    }

    static void promise29TestsReaderAndGathererBeforeWhetherItIsOpenAndBeforeTheRoom() {
        for (int number : NO_THREES) {
            refused("pour(2, " + number + ")", NO_SUCH, well -> well.pour(2, number));
            refused("pour(" + number + ", 1)", NO_SUCH, well -> well.pour(number, 1));
        }
    }

    static void promise29WhatWasPouredIsNotTheRow() {
        Well well = five();
        well.pour(0, 1);
        well.fill(0, 0, 5, 0, 0);
        dueGathered("after the row was filled", well, 1, 3, 1, 2, 3, 4, 5);
    }

    // Promise 30: pourParts

    static void promise30TakesPartsOf1To64() {
        for (int part : new int[] {1, 2, 63, 64}) {
            for (int left : new int[] {1, 2, 62, 63, 64, 65, 66, 126, 127, 128, 129, 255, 256}) {
                Well well = pouring(left, 0);
                due(left + " by parts of " + part, well.pourParts(0, 0, part), (left + part - 1) / part);
                due("size", well.size(0), left);
                due("left", well.left(0), 0);
                dueTakenOf(well, left, 0);
            }
        }
    }

    static void promise30RefusesOtherParts() {
        for (int part : new int[] {0, -1, 65, 128, 256, -64, MIN, MAX}) {
            refused("pourParts(0, 0, " + part + ")", ILLEGAL, well -> well.pourParts(0, 0, part));
            refused("pourParts(0, 2, " + part + ")", ILLEGAL, well -> well.pourParts(0, 2, part));
            refused("of none left", EdgesOfReadersTest::atEnd, ILLEGAL, well -> well.pourParts(0, 0, part));
        }
    }

    static void promise30CountsPartsThatHadBytesOnly() {
        for (int part = 1; part <= 7; part++) {
            for (int left = 0; left <= 14; left++) {
                int parts = 0;
                for (int poured = 0; poured < left; poured += part) {
                    parts++;
                }
                due(left + " by parts of " + part, pouring(left, 3).pourParts(0, 0, part), parts);
            }
        }
    }

    static void promise30OfNoneLeft() {
        for (int gatherer = 0; gatherer < 3; gatherer++) {
            int here = gatherer;
            changesNothing("pourParts(0, " + gatherer + ", 1)", EdgesOfReadersTest::atEnd, 0,
                well -> well.pourParts(0, here, 1));
            changesNothing("pourParts(2, " + gatherer + ", 64)", EdgesOfReadersTest::onEmpty, 0,
                well -> well.pourParts(2, here, 64));
        }
    }

    static void promise30PoursUpTo256() {
        int[][] fitting = {{256, 0, 64}, {255, 1, 64}, {4, 252, 3}, {4, 252, 64}, {1, 255, 1}, {1, 255, 64}};
        for (int[] pair : fitting) {
            Well well = pouring(pair[0], pair[1]);
            well.pourParts(0, 0, pair[2]);
            due(pair[0] + " to " + pair[1] + ", size", well.size(0), 256);
            due("left", well.left(0), 0);
            dueTakenOf(well, pair[0], pair[1]);
        }
    }

    static void promise30RefusesMoreThan256AndPoursNoPart() {
        int[][] toomany = {{256, 1}, {255, 2}, {5, 252}, {2, 255}, {1, 256}, {256, 256}};
        for (int[] pair : toomany) {
            for (int part : new int[] {1, 2, 4, 64}) {
                refused(pair[0] + " to " + pair[1] + " by " + part, () -> pouring(pair[0], pair[1]), FULL,
                    well -> well.pourParts(0, 0, part));
            }
        }
    }

    static void promise30RefusesOtherReadersAndGatherers() {
        for (int number : NO_THREES) {
            for (int other = 0; other < 3; other++) {
                int here = other;
                refused("pourParts(" + number + ", " + other + ", 3)", NO_SUCH,
                    well -> well.pourParts(number, here, 3));
                refused("pourParts(" + other + ", " + number + ", 3)", NO_SUCH,
                    well -> well.pourParts(here, number, 3));
            }
        }
    }

    static void promise30RefusesOneThatIsNotOpen() {
        for (int gatherer = 0; gatherer < 3; gatherer++) {
            int here = gatherer;
            refused("pourParts(2, " + gatherer + ", 1)", SHUT, well -> well.pourParts(2, here, 1));
            refused("pourParts(2, " + gatherer + ", 64)", SHUT, well -> well.pourParts(2, here, 64));
        }
    }

    static void promise30TestsReaderAndGathererBeforeThePart() {
        for (int number : NO_THREES) {
            for (int part : new int[] {0, 65, MIN, MAX}) {
                refused("pourParts(" + number + ", 0, " + part + ")", NO_SUCH,
                    well -> well.pourParts(number, 0, part));
                refused("pourParts(0, " + number + ", " + part + ")", NO_SUCH,
                    well -> well.pourParts(0, number, part));
                refused("pourParts(2, " + number + ", " + part + ")", NO_SUCH,
                    well -> well.pourParts(2, number, part));
            }
        }
    }

    static void promise30TestsThePartBeforeWhetherItIsOpenAndBeforeTheRoom() {
        for (int part : new int[] {0, -1, 65, MIN, MAX}) {
            refused("pourParts(2, 0, " + part + ")", ILLEGAL, well -> well.pourParts(2, 0, part));
            refused("pourParts(2, 1, " + part + ")", ILLEGAL, well -> well.pourParts(2, 1, part));
            refused("pourParts(0, 1, " + part + ")", ILLEGAL, well -> well.pourParts(0, 1, part));
        }
    }

    static void promise30AsPourDoes() {
        for (int part = 1; part <= 64; part++) {
            Well well = whole();
            well.skip(2, part);
            well.mark(2, 0);
            well.pour(2, 0);
            well.back(2);
            well.pourParts(2, 1, part);
            well.take(0, 0);
            well.take(1, 1);
            due("by parts of " + part, well.isLike(0, 1), true);
        }
    }

    // Promise 31: alike

    /** Readers 0 and 1 at the begin of rows 0 and 1. */
    private static Well two(int[] bytes, int[] others) {
        Well well = new Well();
        set(well, 0, bytes);
        set(well, 1, others);
        well.open(0, 0);
        well.open(1, 1);
        return well;
    }

    private static int[] row(int... bytes) {
        return bytes;
    }

    static void promise31EndsAtTheFirstOtherByteWhereBothAreMarked() {
        Well well = two(row(1, 2, 3, 4, 5), row(1, 2, 9, 4, 5, 6));
        due("alike(0, 1)", well.alike(0, 1), 2);
        due("left of the first", well.left(0), 3);
        due("left of the other", well.left(1), 4);
        well.skip(0, 9);
        well.skip(1, 9);
        due("back of the first", well.back(0), 3);
        due("back of the other", well.back(1), 4);
        due("the next of the first", well.read(0), 3);
        due("the next of the other", well.read(1), 9);
    }

    static void promise31OfNothingAlikeBothAreMarkedWhereTheyAre() {
        Well well = two(row(7, 1, 2), row(8, 9, 3));
        well.skip(0, 1);
        well.skip(1, 1);
        due("alike(1, 0)", well.alike(1, 0), 0);
        due("left of the first", well.left(0), 2);
        due("left of the other", well.left(1), 2);
        due("back of the first", well.back(0), 2);
        due("back of the other", well.back(1), 2);
    }

    static void promise31FormerMarksAreForgotten() {
        Well well = two(row(1, 2, 3, 4), row(3, 9));
        well.mark(0, 0);
        well.mark(1, 0);
        well.skip(0, 2);
        due("alike(0, 1)", well.alike(0, 1), 1);
        due("back of the first", well.back(0), 1);
        due("back of the other", well.back(1), 1);
    }

    static void promise31EndsWhereTheShorterOneEnds() {
        Well well = two(row(1, 2, 3), row(1, 2, 3, 4));
        due("the first is shorter", well.alike(0, 1), 3);
        due("left of the shorter", well.back(0), 0);
        due("left of the longer", well.back(1), 1);
        well = two(row(1, 2, 3, 4), row(1, 2, 3));
        due("the other is shorter", well.alike(0, 1), 3);
        due("left of the longer", well.back(0), 1);
        due("left of the shorter", well.back(1), 0);
        due("one at its end", well.alike(0, 1), 0);
        due("left of the longer", well.back(0), 1);
    }

    static void promise31EndsWhereBothEnd() {
        Well well = two(row(1, 2, 3), row(9, 1, 2, 3));
        well.read(1);
        due("alike(0, 1)", well.alike(0, 1), 3);
        due("back of the first", well.back(0), 0);
        due("back of the other", well.back(1), 0);
        due("both at their ends", well.alike(1, 0), 0);
        due("none", well.read(0) + well.read(1), -2);
    }

    static void promise31OfEmptyRows() {
        Well well = two(row(), row());
        due("both empty", well.alike(0, 1), 0);
        due("back", well.back(0) + well.back(1), 0);
        well = two(row(), row(0, 1));
        due("one empty", well.alike(0, 1), 0);
        due("one empty, the other way", well.alike(1, 0), 0);
        due("left", well.left(1), 2);
    }

    static void promise31OfFullRows() {
        Well well = whole();
        full(well, 0);
        well.open(0, 0);
        due("alike(0, 2)", well.alike(0, 2), 256);
        due("left", well.left(0) + well.left(2), 0);
        well.put(0, 255, 0);
        well.open(0, 0);
        well.open(2, 2);
        due("but the last byte", well.alike(2, 0), 255);
        due("left", well.back(0) + well.back(2), 2);
        well.put(0, 0, 0);
        well.open(0, 0);
        well.open(2, 2);
        due("but the first byte", well.alike(2, 0), 0);
    }

    static void promise31OfBytesThatAreNearlyTheSame() {
        int[][] pairs = {{-1, 1}, {-128, 127}, {0, -128}, {0, -1}, {64, -64}};
        for (int[] pair : pairs) {
            due(pair[0] + " and " + pair[1], two(row(pair[0]), row(pair[1])).alike(0, 1), 0);
        }
        due("the same", two(row(-128, -1, 0, 127), row(128, 255, 256, -129)).alike(0, 1), 4);
    }

    static void promise31OfTheSameArray() {
        Well well = five();
        well.open(1, 0);
        well.read(1);
        due("at other places", well.alike(0, 1), 0);
        well.fill(0, 0, 5, 6, 0);
        due("at other places, of the same bytes", well.alike(0, 1), 4);
        due("left", well.back(0), 1);
        due("at the end", well.back(1), 0);
        well.open(0, 0);
        well.open(1, 0);
        due("at the same place", well.alike(0, 1), 5);
    }

    static void promise31TakesReaders0To2() {
        for (int reader = 0; reader < 3; reader++) {
            for (int other = 0; other < 3; other++) {
                if (reader != other) {
                    Well well = five();
                    well.open(reader, 0);
                    well.open(other, 0);
                    due("alike(" + reader + ", " + other + ")", well.alike(reader, other), 5);
                    due("left of both", well.left(reader) + well.left(other), 0);
                }
            }
        }
    }

    static void promise31RefusesOtherReadersOnEitherSide() {
        for (int number : NO_THREES) {
            for (int reader = 0; reader < 3; reader++) {
                int here = reader;
                refused("alike(" + number + ", " + reader + ")", NO_SUCH, well -> well.alike(number, here));
                refused("alike(" + reader + ", " + number + ")", NO_SUCH, well -> well.alike(here, number));
            }
        }
    }

    static void promise31RefusesTheSameOne() {
        refused("alike(0, 0)", ILLEGAL, well -> well.alike(0, 0));
        refused("alike(1, 1)", ILLEGAL, well -> well.alike(1, 1));
        refused("at the end", EdgesOfReadersTest::atEnd, ILLEGAL, well -> well.alike(0, 0));
        refused("on an empty row", EdgesOfReadersTest::onEmpty, ILLEGAL, well -> well.alike(2, 2));
    }

    static void promise31RefusesIfOneIsNotOpen() {
        refused("alike(2, 0)", SHUT, well -> well.alike(2, 0));
        refused("alike(0, 2)", SHUT, well -> well.alike(0, 2));
        refused("alike(1, 2)", SHUT, well -> well.alike(1, 2));
        refused("alike(0, 1) of a new one", Well::new, SHUT, well -> well.alike(0, 1));
        refused("alike(2, 0) at the end", EdgesOfReadersTest::atEnd, SHUT, well -> well.alike(2, 0));
    }

    static void promise31WhatIsPutWhereItEndedIsReadThen() {
        Well well = two(row(1, 2, 3), row(1, 9, 3));
        well.alike(0, 1);
        well.put(0, 1, 50);
        well.put(1, 1, 60);
        due("the next of the first", well.read(0), 50);
        due("the next of the other", well.read(1), 60);
        well.back(0);
        well.back(1);
        well.put(1, 1, 50);
        due("on from where it ended", well.alike(0, 1), 2);
    }

    static void promise31TestsTheReadersBeforeWhetherTheyAreOpen() {
        for (int number : NO_THREES) {
            refused("alike(2, " + number + ")", NO_SUCH, well -> well.alike(2, number));
            refused("alike(" + number + ", 2)", NO_SUCH, well -> well.alike(number, 2));
        }
    }

    static void promise31TestsTheReadersBeforeWhetherTheyAreTheSame() {
        for (int number : NO_THREES) {
            refused("alike(" + number + ", " + number + ")", NO_SUCH, well -> well.alike(number, number));
        }
    }

    static void promise31TestsWhetherTheyAreTheSameBeforeWhetherTheyAreOpen() {
        refused("alike(2, 2)", ILLEGAL, well -> well.alike(2, 2));
        refused("alike(1, 1) of a new one", Well::new, ILLEGAL, well -> well.alike(1, 1));
    }
}
