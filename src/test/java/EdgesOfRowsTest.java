/** The boundary cases of promises 1 to 8, a test for each sentence that names one. */
public final class EdgesOfRowsTest extends Edges {
    private EdgesOfRowsTest() {
    }

    public static void main(String[] args) {
        Check.runAll(EdgesOfRowsTest.class);
    }

    // Promise 1: "with empty rows and gatherers, and no open reader"

    static void promise01RowsAreEmpty() {
        for (int row = 0; row < 4; row++) {
            int here = row;
            Well well = new Well();
            due("length(" + row + ")", well.length(row), 0);
            refused("get(" + row + ", 0)", Well::new, NO_SUCH, fresh -> fresh.get(here, 0));
            refused("put(" + row + ", 0, 1)", Well::new, NO_SUCH, fresh -> fresh.put(here, 0, 1));
            due("open on row " + row, well.open(0, row), 0);
            due("make(" + row + ", 1)", well.make(row, 1), 0);
        }
    }

    static void promise01EachRowIsAnArrayOfItsOwn() {
        Well well = new Well();
        for (int row = 0; row < 4; row++) {
            for (int other = 0; other < 4; other++) {
                due("rows " + row + " and " + other + " are the same", areSameArray(well, row, other), row == other);
            }
        }
    }

    static void promise01GatherersAreEmpty() {
        for (int gatherer = 0; gatherer < 3; gatherer++) {
            Well well = new Well();
            due("size(" + gatherer + ")", well.size(gatherer), 0);
            due("empty(" + gatherer + ")", well.empty(gatherer), 0);
            due("take(" + gatherer + ", 0)", well.take(gatherer, 0), 0);
            due("write(" + gatherer + ", 1)", well.write(gatherer, 1), 1);
        }
    }

    static void promise01NoReaderIsOpen() {
        for (int reader = 0; reader < 3; reader++) {
            int here = reader;
            due("isOpen(" + reader + ")", new Well().isOpen(reader), false);
            refused("read(" + reader + ")", Well::new, SHUT, well -> well.read(here));
            refused("back(" + reader + ")", Well::new, SHUT, well -> well.back(here));
        }
    }

    static void promise01FiguresOfANewOne() {
        due("checksum()", new Well().checksum(), sumOfANewOne());
        due("isTrue()", new Well().isTrue(), true);
        refused("meanSize()", Well::new, NO_SHARE, Well::meanSize);
    }

    private static long sumOfANewOne() {
        long sum = 7;
        for (int i = 0; i < 7; i++) {
            sum *= 31;
        }
        for (int i = 0; i < 3; i++) {
            sum = 31 * sum - 1;
        }
        return sum;
    }

    static void promise01WellsAreApart() {
        Well one = busy();
        Well two = new Well();
        due("length(2) of a second one", two.length(2), 0);
        due("size(1) of a second one", two.size(1), 0);
        due("isOpen(0) of a second one", two.isOpen(0), false);
        set(two, 0, 9);
        two.write(0, 1);
        due("the first one after it", Check.allOf(one), Check.allOf(busy()));
    }

    // Promise 2: make

    static void promise02TakesRows0To3() {
        Well well = new Well();
        for (int row = 0; row < 4; row++) {
            due("make(" + row + ")", well.make(row, 10 + row), 0);
        }
        for (int row = 0; row < 4; row++) {
            due("length(" + row + ")", well.length(row), 10 + row);
        }
    }

    static void promise02RefusesOtherRows() {
        for (int row : NO_ROWS) {
            refused("make(" + row + ", 1)", NO_SUCH, well -> well.make(row, 1));
        }
    }

    static void promise02TakesLengths0To256() {
        for (int length : new int[] {0, 1, 127, 128, 255, 256}) {
            Well well = busy();
            due("make(0, " + length + ")", well.make(0, length), 5);
            due("length(0)", well.length(0), length);
            dueThrown("get(0, " + length + ")", NO_SUCH, () -> well.get(0, length));
            if (length > 0) {
                due("get(0, " + (length - 1) + ")", well.get(0, length - 1), 0);
            }
        }
    }

    static void promise02RefusesOtherLengths() {
        for (int length : new int[] {-1, 257, -256, 512, 65536, MIN, MAX}) {
            for (int row = 0; row < 4; row++) {
                int here = row;
                refused("make(" + row + ", " + length + ")", ILLEGAL, well -> well.make(here, length));
            }
        }
    }

    static void promise02TestsTheRowBeforeTheLength() {
        for (int row : NO_ROWS) {
            for (int length : new int[] {-1, 257, MIN, MAX}) {
                refused("make(" + row + ", " + length + ")", NO_SUCH, well -> well.make(row, length));
            }
        }
    }

    static void promise02AnswersHowLongItWas() {
        Well well = new Well();
        due("of an empty one", well.make(1, 256), 0);
        due("of a full one", well.make(1, 256), 256);
        due("of a full one again", well.make(1, 0), 256);
        due("of an empty one again", well.make(1, 0), 0);
        due("of one byte less", well.make(1, 255), 0);
        due("and then", well.make(1, 1), 255);
        due("of one byte", well.make(1, 0), 1);
    }

    static void promise02MakesAnewOfBytes0() {
        Well well = new Well();
        well.make(0, 256);
        well.fill(0, 0, 256, 9, 0);
        well.make(0, 256);
        for (int i = 0; i < 256; i++) {
            due("get(0, " + i + ")", well.get(0, i), 0);
        }
    }

    static void promise02GivesAnotherArrayIfAsLong() {
        for (int length : new int[] {0, 5, 256}) {
            Well well = new Well();
            well.make(0, length);
            well.lend(0, 1);
            due("lent, of length " + length, areSameArray(well, 0, 1), true);
            well.make(0, length);
            due("made anew, of length " + length, areSameArray(well, 0, 1), false);
        }
    }

    static void promise02WhatReadsTheFormerOneGoesOnWithThat() {
        Well well = five();
        well.lend(0, 1);
        well.read(0);
        well.make(0, 0);
        due("left(0)", well.left(0), 4);
        well.put(1, 1, 20);
        dueAhead("the former one", well, 0, 20, 3, 4, 5);
        due("back(0)", well.back(0), 5);
        dueRow("the row that got it", well, 1, 1, 20, 3, 4, 5);
    }

    // Promise 3: lend

    static void promise03TakesRows0To3OnBothSides() {
        for (int row = 0; row < 4; row++) {
            for (int to = 0; to < 4; to++) {
                Well well = new Well();
                for (int i = 0; i < 4; i++) {
                    well.make(i, 10 + i);
                }
                due("lend(" + row + ", " + to + ")", well.lend(row, to), 10 + to);
                for (int i = 0; i < 4; i++) {
                    due("length(" + i + ") after it", well.length(i), i == to ? 10 + row : 10 + i);
                }
                due("they are the same", areSameArray(well, row, to), true);
            }
        }
    }

    static void promise03RefusesOtherRowsOnEitherSide() {
        for (int row : NO_ROWS) {
            for (int other = 0; other < 4; other++) {
                int here = other;
                refused("lend(" + row + ", " + other + ")", NO_SUCH, well -> well.lend(row, here));
                refused("lend(" + other + ", " + row + ")", NO_SUCH, well -> well.lend(here, row));
            }
            refused("lend(" + row + ", " + row + ")", NO_SUCH, well -> well.lend(row, row));
        }
    }

    static void promise03AnswersHowLongTheOneWasThatGetsIt() {
        Well well = new Well();
        full(well, 2);
        set(well, 1, 8);
        due("empty gets full", well.lend(2, 0), 0);
        due("full gets one byte", well.lend(1, 0), 256);
        due("one byte gets empty", well.lend(3, 0), 1);
        due("empty gets empty", well.lend(3, 0), 0);
        due("full gets its own", well.lend(2, 2), 256);
    }

    static void promise03GivesTheVerySameArrayAlsoIfEmptyOrFull() {
        for (int length : new int[] {0, 1, 256}) {
            Well well = new Well();
            well.make(0, length);
            well.make(3, length);
            due("before, of length " + length, areSameArray(well, 0, 3), false);
            well.lend(0, 3);
            due("lent, of length " + length, areSameArray(well, 0, 3), true);
        }
    }

    static void promise03WhatIsPutInOneIsInTheOther() {
        Well well = five();
        well.lend(0, 3);
        well.put(3, 0, -128);
        due("the first place, of the one that lent", well.get(0, 0), -128);
        well.put(0, 4, 127);
        due("the last place, of the one that got", well.get(3, 4), 127);
    }

    static void promise03ToItselfChangesNothing() {
        changesNothing("lend(0, 0)", Edges::busy, 5, well -> well.lend(0, 0));
        changesNothing("lend(2, 2)", Edges::busy, 256, well -> well.lend(2, 2));
        changesNothing("lend(3, 3)", Edges::busy, 0, well -> well.lend(3, 3));
        changesNothing("lend(0, 1), which is the same", Edges::busy, 5, well -> well.lend(0, 1));
    }

    static void promise03TheOthersStay() {
        Well well = five();
        well.lend(0, 1);
        well.lend(1, 2);
        set(well, 0, 7);
        due("the third one is the second one", areSameArray(well, 1, 2), true);
        dueRow("the third one", well, 2, 1, 2, 3, 4, 5);
        well.lend(0, 1);
        dueRow("the third one when the second one got another", well, 2, 1, 2, 3, 4, 5);
        dueAhead("the reader", well, 0, 1, 2, 3, 4, 5);
    }

    // Promise 4: length

    static void promise04OfEmptyAndFull() {
        for (int row = 0; row < 4; row++) {
            Well well = new Well();
            due("empty", well.length(row), 0);
            well.make(row, 1);
            due("of one byte", well.length(row), 1);
            well.make(row, 255);
            due("one less than full", well.length(row), 255);
            well.make(row, 256);
            due("full", well.length(row), 256);
        }
    }

    static void promise04RefusesOtherRows() {
        for (int row : NO_ROWS) {
            refused("length(" + row + ")", NO_SUCH, well -> well.length(row));
        }
    }

    static void promise04ChangesNothing() {
        changesNothing("length(0)", Edges::busy, 5, well -> well.length(0));
        changesNothing("length(2)", Edges::busy, 256, well -> well.length(2));
    }

    // Promise 5: get

    static void promise05TakesPlacesFrom0ToTheLast() {
        Well well = busy();
        due("get(0, 0)", well.get(0, 0), 1);
        due("get(0, 4)", well.get(0, 4), 5);
        due("get(2, 0)", well.get(2, 0), -128);
        due("get(2, 127)", well.get(2, 127), -1);
        due("get(2, 128)", well.get(2, 128), 0);
        due("get(2, 255)", well.get(2, 255), 127);
        set(well, 3, 9);
        due("get(3, 0), the only one", well.get(3, 0), 9);
    }

    static void promise05RefusesOtherPlaces() {
        for (int index : new int[] {-1, 5, -5, 6, MIN, MAX}) {
            refused("get(0, " + index + ")", NO_SUCH, well -> well.get(0, index));
        }
        for (int index : new int[] {-1, 256, -256, 257, MIN, MAX}) {
            refused("get(2, " + index + ")", NO_SUCH, well -> well.get(2, index));
        }
    }

    static void promise05AnEmptyRowHasNoPlace() {
        for (int index : new int[] {0, -1, 1, MIN, MAX}) {
            refused("get(3, " + index + ")", NO_SUCH, well -> well.get(3, index));
        }
    }

    static void promise05RefusesOtherRows() {
        for (int row : NO_ROWS) {
            refused("get(" + row + ", 0)", NO_SUCH, well -> well.get(row, 0));
            refused("get(" + row + ", -1)", NO_SUCH, well -> well.get(row, -1));
        }
    }

    static void promise05AnswersBytesFromMinus128To127() {
        Well well = new Well();
        full(well, 1);
        for (int i = 0; i < 256; i++) {
            due("get(1, " + i + ")", well.get(1, i), i - 128);
        }
        changesNothing("get(0, 4)", Edges::busy, 5, busy -> busy.get(0, 4));
    }

    // Promise 6: put

    static void promise06KeepsTheLowest8Bits() {
        for (int[] pair : BYTES_OF_NUMBERS) {
            Well well = five();
            due("put(0, 2, " + pair[0] + ")", well.put(0, 2, pair[0]), 3);
            due("get(0, 2) after it", well.get(0, 2), pair[1]);
            due("put again", well.put(0, 2, 0), pair[1]);
        }
    }

    static void promise06AnswersTheByteThatWasThere() {
        Well well = new Well();
        full(well, 2);
        for (int i = 0; i < 256; i++) {
            due("put(2, " + i + ", 1)", well.put(2, i, 1), i - 128);
        }
        due("the byte, not the number", well.put(2, 0, 511), 1);
        due("as a byte", well.put(2, 0, 0), -1);
    }

    static void promise06TakesPlacesFrom0ToTheLast() {
        Well well = five();
        due("put(0, 0, 10)", well.put(0, 0, 10), 1);
        due("put(0, 4, 50)", well.put(0, 4, 50), 5);
        dueRow("the other places stay", well, 0, 10, 2, 3, 4, 50);
        full(well, 2);
        due("put(2, 255, 0)", well.put(2, 255, 0), 127);
        due("put(2, 0, 0)", well.put(2, 0, 0), -128);
        due("the one beside", well.get(2, 254), 126);
    }

    static void promise06RefusesOtherPlaces() {
        for (int index : new int[] {-1, 5, -5, 6, MIN, MAX}) {
            refused("put(0, " + index + ", 9)", NO_SUCH, well -> well.put(0, index, 9));
        }
        for (int index : new int[] {-1, 256, -256, 257, MIN, MAX}) {
            refused("put(2, " + index + ", 9)", NO_SUCH, well -> well.put(2, index, 9));
        }
    }

    static void promise06AnEmptyRowHasNoPlace() {
        for (int index : new int[] {0, -1, 1, MIN, MAX}) {
            refused("put(3, " + index + ", 9)", NO_SUCH, well -> well.put(3, index, 9));
        }
    }

    static void promise06RefusesOtherRows() {
        for (int row : NO_ROWS) {
            refused("put(" + row + ", 0, 9)", NO_SUCH, well -> well.put(row, 0, 9));
        }
    }

    // Promise 7: fill

    static void promise07OfNoneTheFirstMayBe0ToTheLength() {
        for (int from = 0; from <= 5; from++) {
            int here = from;
            changesNothing("fill(0, " + from + ", 0, 9, 9)", Edges::busy, 0, well -> well.fill(0, here, 0, 9, 9));
        }
        for (int from : new int[] {0, 255, 256}) {
            changesNothing("fill(2, " + from + ", 0, 9, 9)", Edges::busy, 0, well -> well.fill(2, from, 0, 9, 9));
        }
        changesNothing("fill(3, 0, 0, 9, 9)", Edges::busy, 0, well -> well.fill(3, 0, 0, 9, 9));
    }

    static void promise07TakesAllOfTheseFromTheFirstToTheLast() {
        Well well = five();
        due("all", well.fill(0, 0, 5, 10, 10), 15);
        dueRow("all", well, 0, 10, 20, 30, 40, 50);
        due("the last", well.fill(0, 4, 1, 6, 7), 50);
        due("the first", well.fill(0, 0, 1, 8, 7), 10);
        dueRow("of one, the first number only", well, 0, 8, 20, 30, 40, 6);
        due("but the first", well.fill(0, 1, 4, 1, 1), 96);
        dueRow("but the first", well, 0, 8, 1, 2, 3, 4);
    }

    static void promise07FillsAFullRow() {
        Well well = new Well();
        well.make(2, 256);
        due("fill(2, 0, 256, -128, 1)", well.fill(2, 0, 256, -128, 1), 0);
        for (int i = 0; i < 256; i++) {
            due("get(2, " + i + ")", well.get(2, i), i - 128);
        }
        due("but the first", well.fill(2, 1, 255, 0, 0), 0);
        due("the first and the last", well.get(2, 0) + well.get(2, 255), -128);
    }

    static void promise07RefusesPartsThatAreNotThere() {
        for (int[] part : NO_PARTS_OF_FIVE) {
            refused("fill(0, " + part[0] + ", " + part[1] + ", 9, 9)", NO_SUCH,
                well -> well.fill(0, part[0], part[1], 9, 9));
        }
        for (int[] part : NO_PARTS_OF_FULL) {
            refused("fill(2, " + part[0] + ", " + part[1] + ", 9, 9)", NO_SUCH,
                well -> well.fill(2, part[0], part[1], 9, 9));
        }
        for (int[] part : NO_PARTS_OF_EMPTY) {
            refused("fill(3, " + part[0] + ", " + part[1] + ", 9, 9)", NO_SUCH,
                well -> well.fill(3, part[0], part[1], 9, 9));
        }
    }

    static void promise07RefusesOtherRows() {
        for (int row : NO_ROWS) {
            refused("fill(" + row + ", 0, 0, 9, 9)", NO_SUCH, well -> well.fill(row, 0, 0, 9, 9));
            refused("fill(" + row + ", 0, 1, 9, 9)", NO_SUCH, well -> well.fill(row, 0, 1, 9, 9));
            refused("fill(" + row + ", -1, -1, 9, 9)", NO_SUCH, well -> well.fill(row, -1, -1, 9, 9));
        }
    }

    static void promise07TheNumberGoesRound() {
        for (int[] pair : BYTES_OF_NUMBERS) {
            Well well = five();
            well.fill(0, 1, 1, pair[0], 1);
            due("fill(0, 1, 1, " + pair[0] + ", 1)", well.get(0, 1), pair[1]);
        }
        Well well = five();
        well.fill(0, 0, 5, 126, 1);
        dueRow("beyond the greatest byte", well, 0, 126, 127, -128, -127, -126);
        well.fill(0, 0, 5, -127, -1);
        dueRow("beyond the least byte", well, 0, -127, -128, 127, 126, 125);
        well.fill(0, 0, 5, MAX - 1, 1);
        dueRow("beyond the greatest number", well, 0, -2, -1, 0, 1, 2);
        well.fill(0, 0, 5, MIN + 1, -1);
        dueRow("beyond the least number", well, 0, 1, 0, -1, -2, -3);
    }

    static void promise07TheStepGoesRound() {
        int[][] steps = {
            {0, 5, 5, 5}, {1, 6, 7, 8}, {-1, 4, 3, 2}, {127, -124, 3, -126}, {128, -123, 5, -123},
            {-128, -123, 5, -123}, {255, 4, 3, 2}, {256, 5, 5, 5}, {257, 6, 7, 8}, {-256, 5, 5, 5},
            {MAX, 4, 3, 2}, {MIN, 5, 5, 5}, {MIN + 1, 6, 7, 8}, {MIN + 255, 4, 3, 2},
        };
        for (int[] step : steps) {
            Well well = five();
            well.fill(0, 1, 4, 5, step[0]);
            dueRow("by steps of " + step[0], well, 0, 1, 5, step[1], step[2], step[3]);
        }
    }

    static void promise07AnswersTheSumOfTheBytesThatWereThere() {
        Well well = new Well();
        well.make(0, 256);
        due("of bytes 0", well.fill(0, 0, 256, -128, 0), 0);
        due("of the least bytes", well.fill(0, 0, 256, 127, 0), -32768);
        due("of the greatest bytes", well.fill(0, 0, 256, 255, 0), 32512);
        due("of bytes, not of numbers", well.fill(0, 0, 256, 1, 1), -256);
        due("of these places only", well.fill(0, 3, 2, 9, 9), 4 + 5);
    }

    static void promise07FillsALentArray() {
        Well well = five();
        well.lend(0, 2);
        well.read(0);
        well.fill(2, 0, 5, 50, 1);
        dueRow("the one that lent", well, 0, 50, 51, 52, 53, 54);
        dueAhead("what the reader has ahead", well, 0, 51, 52, 53, 54);
    }

    // Promise 8: isLike

    static void promise08OfEmptyRows() {
        changesNothing("both empty", Well::new, true, well -> well.isLike(0, 3));
        changesNothing("empty and itself", Well::new, true, well -> well.isLike(2, 2));
        changesNothing("empty and not", Edges::busy, false, well -> well.isLike(3, 0));
        changesNothing("not and empty", Edges::busy, false, well -> well.isLike(0, 3));
        changesNothing("empty and full", Edges::busy, false, well -> well.isLike(3, 2));
    }

    static void promise08OfItselfAndOfOneThatIsLent() {
        for (int row = 0; row < 4; row++) {
            int here = row;
            changesNothing("isLike(" + row + ", " + row + ")", Edges::busy, true, well -> well.isLike(here, here));
        }
        changesNothing("isLike(0, 1)", Edges::busy, true, well -> well.isLike(0, 1));
    }

    static void promise08OfOneByteMore() {
        Well well = new Well();
        for (int length : new int[] {0, 1, 5, 255}) {
            well.make(0, length);
            well.make(1, length + 1);
            due("shorter, of length " + length, well.isLike(0, 1), false);
            due("longer, of length " + (length + 1), well.isLike(1, 0), false);
            well.make(0, length + 1);
            due("as long as " + (length + 1), well.isLike(0, 1), true);
        }
    }

    static void promise08OfOneOtherByteAtEachPlace() {
        Well well = new Well();
        full(well, 0);
        full(well, 1);
        due("both full", well.isLike(0, 1), true);
        for (int place : new int[] {0, 1, 127, 128, 254, 255}) {
            int former = well.put(1, place, well.get(1, place) + 1);
            due("another byte at " + place, well.isLike(0, 1), false);
            due("another byte at " + place + ", the other way", well.isLike(1, 0), false);
            well.put(1, place, former);
            due("the same byte at " + place, well.isLike(0, 1), true);
        }
    }

    static void promise08OfBytesThatAreNearlyTheSame() {
        int[][] pairs = {{-1, 1}, {-128, 127}, {-128, 0}, {127, -1}, {0, -1}, {64, -64}};
        for (int[] pair : pairs) {
            Well well = new Well();
            set(well, 0, pair[0]);
            set(well, 1, pair[1]);
            due(pair[0] + " and " + pair[1], well.isLike(0, 1), false);
        }
        Well well = new Well();
        set(well, 0, 1, 2);
        set(well, 1, 2, 1);
        due("the same bytes in another order", well.isLike(0, 1), false);
        set(well, 1, 257, -254);
        due("numbers of which the bytes are the same", well.isLike(0, 1), true);
    }

    static void promise08RefusesOtherRowsOnEitherSide() {
        for (int row : NO_ROWS) {
            for (int other = 0; other < 4; other++) {
                int here = other;
                refused("isLike(" + row + ", " + other + ")", NO_SUCH, well -> well.isLike(row, here));
                refused("isLike(" + other + ", " + row + ")", NO_SUCH, well -> well.isLike(here, row));
            }
            refused("isLike(" + row + ", " + row + ")", NO_SUCH, well -> well.isLike(row, row));
        }
    }
}
