/** The boundary cases of promises 9 to 15, a test for each sentence that names one. */
public final class EdgesOfGatherersTest extends Edges {
    private EdgesOfGatherersTest() {
    }

    public static void main(String[] args) {
        Check.runAll(EdgesOfGatherersTest.class);
    }

    /** Gatherer 0 has so many bytes, and row 0 is 1, 2, 3, 4, 5. */
    private static Well gathered(int many) {
        Well well = new Well();
        gather(well, 0, 1, many);
        set(well, 0, 1, 2, 3, 4, 5);
        return well;
    }

    // Promise 9: write

    static void promise09KeepsTheLowest8Bits() {
        for (int[] pair : BYTES_OF_NUMBERS) {
            Well well = new Well();
            due("write(2, " + pair[0] + ")", well.write(2, pair[0]), 1);
            dueGathered("what " + pair[0] + " is", well, 2, 0, pair[1]);
        }
    }

    static void promise09AnswersHowManyBytesItHasThenFrom1To256() {
        Well well = new Well();
        for (int i = 1; i <= 256; i++) {
            due("write number " + i, well.write(1, i), i);
        }
        well.take(1, 0);
        due("the first one", well.get(0, 0), 1);
        due("the 255th one", well.get(0, 254), -1);
        due("the last one", well.get(0, 255), 0);
        dueThrown("one more", FULL, () -> well.write(1, 1));
    }

    static void promise09RefusesOneMoreThan256() {
        refused("write(1, 0)", FULL, well -> well.write(1, 0));
        refused("write(1, -1)", FULL, well -> well.write(1, -1));
        for (int gatherer = 0; gatherer < 3; gatherer++) {
            int here = gatherer;
            Check.Maker oneLess = () -> {
                Well well = new Well();
                gather(well, here, 0, 255);
                return well;
            };
            due("write(" + gatherer + ", 1) to 255", oneLess.make().write(gatherer, 1), 256);
            refused("write(" + gatherer + ", 1) to 256", () -> {
                Well well = oneLess.make();
                well.write(here, 1);
                return well;
            }, FULL, well -> well.write(here, 1));
        }
    }

    static void promise09TakesGatherers0To2EachOfItsOwn() {
        for (int gatherer = 0; gatherer < 3; gatherer++) {
            Well well = new Well();
            well.write(gatherer, 5);
            well.write(gatherer, 6);
            for (int other = 0; other < 3; other++) {
                due("size(" + other + ") after write(" + gatherer + ")", well.size(other), other == gatherer ? 2 : 0);
            }
        }
    }

    static void promise09RefusesOtherGatherers() {
        for (int gatherer : NO_THREES) {
            refused("write(" + gatherer + ", 1)", NO_SUCH, well -> well.write(gatherer, 1));
        }
    }

    // Promise 10: writePart

    static void promise10OfNoneTheFirstMayBe0ToTheLength() {
        for (int from = 0; from <= 5; from++) {
            int here = from;
            changesNothing("writePart(0, 0, " + from + ", 0)", Edges::busy, 252,
                well -> well.writePart(0, 0, here, 0));
        }
        for (int from : new int[] {0, 255, 256}) {
            changesNothing("writePart(0, 2, " + from + ", 0)", Edges::busy, 252,
                well -> well.writePart(0, 2, from, 0));
        }
        changesNothing("of an empty row", Edges::busy, 252, well -> well.writePart(0, 3, 0, 0));
        changesNothing("to an empty one", Edges::busy, 0, well -> well.writePart(2, 0, 5, 0));
    }

    static void promise10OfNoneToAFullOne() {
        changesNothing("of five", Edges::busy, 256, well -> well.writePart(1, 0, 5, 0));
        changesNothing("of a full row", Edges::busy, 256, well -> well.writePart(1, 2, 256, 0));
        changesNothing("of an empty row", Edges::busy, 256, well -> well.writePart(1, 3, 0, 0));
    }

    static void promise10TakesAllOfTheseFromTheFirstToTheLast() {
        Well well = new Well();
        set(well, 0, 1, -2, 127, -128, 5);
        due("all", well.writePart(0, 0, 0, 5), 5);
        due("the last", well.writePart(0, 0, 4, 1), 6);
        due("the first", well.writePart(0, 0, 0, 1), 7);
        due("but the first", well.writePart(0, 0, 1, 4), 11);
        dueGathered("all of these", well, 0, 3, 1, -2, 127, -128, 5, 5, 1, -2, 127, -128, 5);
    }

    static void promise10RefusesPartsThatAreNotThere() {
        for (int gatherer : new int[] {0, 2}) {
            for (int[] part : NO_PARTS_OF_FIVE) {
                refused("writePart(" + gatherer + ", 0, " + part[0] + ", " + part[1] + ")", NO_SUCH,
                    well -> well.writePart(gatherer, 0, part[0], part[1]));
            }
            for (int[] part : NO_PARTS_OF_FULL) {
                refused("writePart(" + gatherer + ", 2, " + part[0] + ", " + part[1] + ")", NO_SUCH,
                    well -> well.writePart(gatherer, 2, part[0], part[1]));
            }
            for (int[] part : NO_PARTS_OF_EMPTY) {
                refused("writePart(" + gatherer + ", 3, " + part[0] + ", " + part[1] + ")", NO_SUCH,
                    well -> well.writePart(gatherer, 3, part[0], part[1]));
            }
        }
    }

    static void promise10RefusesOtherGatherersAndRows() {
        for (int gatherer : NO_THREES) {
            refused("writePart(" + gatherer + ", 0, 0, 1)", NO_SUCH, well -> well.writePart(gatherer, 0, 0, 1));
            refused("writePart(" + gatherer + ", 0, 0, 0)", NO_SUCH, well -> well.writePart(gatherer, 0, 0, 0));
        }
        for (int row : NO_ROWS) {
            refused("writePart(2, " + row + ", 0, 1)", NO_SUCH, well -> well.writePart(2, row, 0, 1));
            refused("writePart(2, " + row + ", 0, 0)", NO_SUCH, well -> well.writePart(2, row, 0, 0));
        }
    }

    static void promise10WritesUpTo256() {
        due("a full row to an empty one", whole().writePart(0, 2, 0, 256), 256);
        due("four to 252", busy().writePart(0, 0, 1, 4), 256);
        due("one to 255", gathered(255).writePart(0, 0, 4, 1), 256);
        due("255 to one", gathered(1).writePart(0, 1, 0, 1), 2);
        Well well = busy();
        well.write(2, 9);
        due("255 to one", well.writePart(2, 2, 1, 255), 256);
        well.take(2, 3);
        due("the first one", well.get(3, 0), 9);
        due("the second one", well.get(3, 1), -127);
        due("the last one", well.get(3, 255), 127);
    }

    static void promise10RefusesMoreThan256() {
        refused("five to 252", FULL, well -> well.writePart(0, 0, 0, 5));
        refused("a full row to 252", FULL, well -> well.writePart(0, 2, 0, 256));
        refused("one to 256", FULL, well -> well.writePart(1, 0, 4, 1));
        refused("a full row to 256", FULL, well -> well.writePart(1, 2, 0, 256));
        refused("two to 255", () -> gathered(255), FULL, well -> well.writePart(0, 0, 3, 2));
        refused("256 to one", () -> {
            Well well = busy();
            well.write(2, 9);
            return well;
        }, FULL, well -> well.writePart(2, 2, 0, 256));
    }

    static void promise10TestsThePlacesBeforeTheRoom() {
        for (int[] part : NO_PARTS_OF_FIVE) {
            refused("writePart(1, 0, " + part[0] + ", " + part[1] + ")", NO_SUCH,
                well -> well.writePart(1, 0, part[0], part[1]));
        }
        refused("257 of a full row", NO_SUCH, well -> well.writePart(1, 2, 0, 257));
        refused("one of an empty row", NO_SUCH, well -> well.writePart(1, 3, 0, 1));
    }

    static void promise10TestsTheRowBeforeTheRoom() {
        for (int row : NO_ROWS) {
            refused("writePart(1, " + row + ", 0, 1)", NO_SUCH, well -> well.writePart(1, row, 0, 1));
            refused("writePart(1, " + row + ", 0, 256)", NO_SUCH, well -> well.writePart(1, row, 0, 256));
        }
    }

    static void promise10WhatIsWrittenIsNotTheRow() {
        Well well = five();
        well.writePart(0, 0, 1, 3);
        well.fill(0, 0, 5, 0, 0);
        dueGathered("after the row was filled", well, 0, 3, 2, 3, 4);
    }

    // Promise 11: writeRow

    static void promise11OfAnEmptyRow() {
        changesNothing("to an empty one", Edges::busy, 0, well -> well.writeRow(2, 3));
        changesNothing("to one with room", Edges::busy, 252, well -> well.writeRow(0, 3));
        changesNothing("to a full one", Edges::busy, 256, well -> well.writeRow(1, 3));
    }

    static void promise11WritesUpTo256() {
        Well well = busy();
        due("a full row to an empty one", well.writeRow(2, 2), 256);
        well.take(2, 3);
        due("all of it", well.isLike(2, 3), true);
        set(well, 3, 6, 7, 8, -9);
        due("four to 252", well.writeRow(0, 3), 256);
        well.take(0, 3);
        due("the first of the four", well.get(3, 252), 6);
        due("the last of the four", well.get(3, 255), -9);
        gather(well, 0, 3, 255);
        set(well, 3, -1);
        due("one to 255", well.writeRow(0, 3), 256);
    }

    static void promise11RefusesMoreThan256() {
        refused("five to 252", FULL, well -> well.writeRow(0, 0));
        refused("a full row to 252", FULL, well -> well.writeRow(0, 2));
        refused("five to 256", FULL, well -> well.writeRow(1, 0));
        refused("a full row to 256", FULL, well -> well.writeRow(1, 2));
        refused("five to 255", () -> gathered(255), FULL, well -> well.writeRow(0, 0));
        refused("a full row to one", () -> {
            Well well = busy();
            well.write(2, 9);
            return well;
        }, FULL, well -> well.writeRow(2, 2));
        refused("one to 256", () -> {
            Well well = busy();
            set(well, 3, 1);
            return well;
        }, FULL, well -> well.writeRow(1, 3));
    }

    static void promise11RefusesOtherGatherersAndRows() {
        for (int gatherer : NO_THREES) {
            refused("writeRow(" + gatherer + ", 0)", NO_SUCH, well -> well.writeRow(gatherer, 0));
            refused("writeRow(" + gatherer + ", 3)", NO_SUCH, well -> well.writeRow(gatherer, 3));
        }
        for (int row : NO_ROWS) {
            refused("writeRow(2, " + row + ")", NO_SUCH, well -> well.writeRow(2, row));
        }
    }

    static void promise11TestsTheRowBeforeTheRoom() {
        for (int row : NO_ROWS) {
            refused("writeRow(1, " + row + ")", NO_SUCH, well -> well.writeRow(1, row));
        }
    }

    static void promise11WhatIsWrittenIsNotTheRow() {
        Well well = five();
        well.writeRow(0, 0);
        well.fill(0, 0, 5, 0, 0);
        due("and the same row again", well.writeRow(0, 0), 10);
        dueGathered("after the row was filled", well, 0, 3, 1, 2, 3, 4, 5, 0, 0, 0, 0, 0);
    }

    // Promise 12: writeNumber

    static void promise12WritesTheHighestByteFirst() {
        int[][] numbers = {
            {0, 0, 0, 0, 0}, {1, 0, 0, 0, 1}, {-1, -1, -1, -1, -1}, {MIN, -128, 0, 0, 0}, {MAX, 127, -1, -1, -1},
            {255, 0, 0, 0, -1}, {256, 0, 0, 1, 0}, {-256, -1, -1, -1, 0}, {65535, 0, 0, -1, -1},
            {65536, 0, 1, 0, 0}, {1 << 24, 1, 0, 0, 0}, {0x81828384, -127, -126, -125, -124},
            {0x7F80FF00, 127, -128, -1, 0},
        };
        for (int[] number : numbers) {
            Well well = new Well();
            due("writeNumber(1, " + number[0] + ")", well.writeNumber(1, number[0]), 4);
            dueGathered("the bytes of " + number[0], well, 1, 0, number[1], number[2], number[3], number[4]);
        }
    }

    static void promise12WritesUpTo256() {
        Well well = busy();
        due("to 252", well.writeNumber(0, 0x01020304), 256);
        well.take(0, 3);
        due("its first byte", well.get(3, 252), 1);
        due("its last byte", well.get(3, 255), 4);
        for (int i = 1; i <= 64; i++) {
            due("number " + i, well.writeNumber(2, i), 4 * i);
        }
        dueThrown("number 65", FULL, () -> well.writeNumber(2, 65));
    }

    static void promise12RefusesMoreThan256() {
        for (int many = 253; many <= 256; many++) {
            int here = many;
            refused("to " + many, () -> gathered(here), FULL, well -> well.writeNumber(0, 0x01020304));
        }
    }

    static void promise12RefusesOtherGatherers() {
        for (int gatherer : NO_THREES) {
            refused("writeNumber(" + gatherer + ", 1)", NO_SUCH, well -> well.writeNumber(gatherer, 1));
        }
    }

    // Promise 13: size

    static void promise13OfEmptyAndFull() {
        for (int gatherer = 0; gatherer < 3; gatherer++) {
            for (int many : new int[] {0, 1, 127, 128, 255, 256}) {
                int here = gatherer;
                changesNothing("size(" + gatherer + ")", () -> {
                    Well well = new Well();
                    gather(well, here, 0, many);
                    return well;
                }, many, well -> well.size(here));
            }
        }
    }

    static void promise13AfterARefusedWriteAndAfterEmptying() {
        Well well = busy();
        dueThrown("writeRow(0, 0)", FULL, () -> well.writeRow(0, 0));
        due("size(0)", well.size(0), 252);
        dueThrown("write(1, 1)", FULL, () -> well.write(1, 1));
        due("size(1)", well.size(1), 256);
        well.empty(1);
        due("size(1) when emptied", well.size(1), 0);
        well.take(0, 0);
        due("size(0) when taken", well.size(0), 252);
    }

    static void promise13RefusesOtherGatherers() {
        for (int gatherer : NO_THREES) {
            refused("size(" + gatherer + ")", NO_SUCH, well -> well.size(gatherer));
        }
    }

    // Promise 14: empty

    static void promise14OfAnEmptyOne() {
        changesNothing("empty(2)", Edges::busy, 0, well -> well.empty(2));
        changesNothing("empty(0) of a new one", Well::new, 0, well -> well.empty(0));
        Well well = busy();
        well.empty(1);
        due("empty(1) twice", well.empty(1), 0);
    }

    static void promise14OfAFullOneItHasRoomFor256Again() {
        for (int gatherer = 0; gatherer < 3; gatherer++) {
            int here = gatherer;
            Well well = whole();
            well.writeRow(gatherer, 2);
            due("empty(" + gatherer + ")", well.empty(gatherer), 256);
            due("size(" + gatherer + ")", well.size(gatherer), 0);
            due("write(" + gatherer + ", 5)", well.write(gatherer, 5), 1);
            due("writePart(" + gatherer + ")", well.writePart(gatherer, 2, 0, 255), 256);
            dueThrown("one more", FULL, () -> well.write(here, 1));
            well.take(gatherer, 0);
            due("the first one", well.get(0, 0), 5);
            due("the second one", well.get(0, 1), -128);
        }
    }

    static void promise14AnswersHowManyBytesItHad() {
        for (int many : new int[] {0, 1, 127, 128, 255, 256}) {
            due("of " + many, gathered(many).empty(0), many);
        }
    }

    static void promise14TheOtherOnesStay() {
        Well well = busy();
        well.empty(1);
        due("size(0)", well.size(0), 252);
        well.write(2, 5);
        well.empty(0);
        dueGathered("gatherer 2", well, 2, 3, 5);
    }

    static void promise14WhatWasTakenStays() {
        Well well = gathered(2);
        well.take(0, 2);
        well.empty(0);
        dueRow("when emptied", well, 2, 7, 10);
        well.write(0, 99);
        dueRow("when written anew", well, 2, 7, 10);
        due("taken again", well.take(0, 3), 1);
    }

    static void promise14RefusesOtherGatherers() {
        for (int gatherer : NO_THREES) {
            refused("empty(" + gatherer + ")", NO_SUCH, well -> well.empty(gatherer));
        }
    }

    // Promise 15: take

    static void promise15OfAnEmptyOne() {
        Well well = busy();
        due("take(2, 2)", well.take(2, 2), 0);
        due("length(2)", well.length(2), 0);
        dueThrown("get(2, 0)", NO_SUCH, () -> well.get(2, 0));
    }

    static void promise15OfAFullOne() {
        Well well = busy();
        due("take(1, 3)", well.take(1, 3), 256);
        due("length(3)", well.length(3), 256);
        due("all of it", well.isLike(3, 2), true);
        due("the last one", well.get(3, 255), 127);
    }

    static void promise15TakesGatherers0To2AndRows0To3() {
        for (int gatherer = 0; gatherer < 3; gatherer++) {
            for (int row = 0; row < 4; row++) {
                Well well = new Well();
                for (int i = 0; i < 3; i++) {
                    well.write(i, 60 + i);
                }
                due("take(" + gatherer + ", " + row + ")", well.take(gatherer, row), 1);
                for (int i = 0; i < 4; i++) {
                    due("length(" + i + ") after it", well.length(i), i == row ? 1 : 0);
                }
                due("get(" + row + ", 0)", well.get(row, 0), 60 + gatherer);
            }
        }
    }

    static void promise15RefusesOtherGatherersAndRows() {
        for (int gatherer : NO_THREES) {
            for (int row = 0; row < 4; row++) {
                int here = row;
                refused("take(" + gatherer + ", " + row + ")", NO_SUCH, well -> well.take(gatherer, here));
            }
            refused("take(" + gatherer + ", 4)", NO_SUCH, well -> well.take(gatherer, 4));
        }
        for (int row : NO_ROWS) {
            for (int gatherer = 0; gatherer < 3; gatherer++) {
                int here = gatherer;
                refused("take(" + gatherer + ", " + row + ")", NO_SUCH, well -> well.take(here, row));
            }
        }
    }

    static void promise15GivesANewArrayEachTimeAlsoIfEmpty() {
        for (int many : new int[] {0, 1, 256}) {
            Well well = gathered(many);
            well.take(0, 2);
            well.lend(2, 3);
            due("two of " + many + " bytes", well.take(0, 2), many);
            due("they are the same", areSameArray(well, 2, 3), false);
            due("they are like", well.isLike(2, 3), true);
        }
    }

    static void promise15NothingLaterChangesWhatIsTaken() {
        Well well = gathered(3);
        well.take(0, 2);
        well.write(0, 99);
        dueRow("written", well, 2, 7, 10, 13);
        well.empty(0);
        well.writeRow(0, 0);
        dueRow("emptied and written anew", well, 2, 7, 10, 13);
    }

    static void promise15NothingLaterChangesWhatIsTakenOfAFullOne() {
        Well well = busy();
        well.take(1, 3);
        well.empty(1);
        due("writeNumber(1, 0)", well.writeNumber(1, 0), 4);
        due("the first one", well.get(3, 0), -128);
        due("all of it", well.isLike(3, 2), true);
        well.writePart(1, 2, 0, 252);
        well.take(1, 0);
        well.fill(0, 0, 256, 0, 0);
        well.take(1, 0);
        due("what is put into a taken one is not in it", well.get(0, 4), -128);
    }

    static void promise15NothingThatIsTakenChangesIt() {
        Well well = gathered(3);
        well.take(0, 2);
        well.fill(2, 0, 3, 90, 1);
        due("size(0)", well.size(0), 3);
        dueGathered("taken again", well, 0, 3, 7, 10, 13);
        dueRow("the one that was taken first", well, 2, 90, 91, 92);
    }

    static void promise15WhatReadsTheFormerRowGoesOnWithThat() {
        Well well = five();
        well.lend(0, 1);
        well.read(0);
        due("take of an empty one", well.take(0, 0), 0);
        due("left(0)", well.left(0), 4);
        dueRow("the row that got the former one", well, 1, 1, 2, 3, 4, 5);
        dueAhead("the former one", well, 0, 2, 3, 4, 5);
    }
}
