/** The boundary cases of promises 18 to 25, a test for each sentence that names one. */
public final class EdgesOfReadingTest extends Edges {
    private EdgesOfReadingTest() {
    }

    public static void main(String[] args) {
        Check.runAll(EdgesOfReadingTest.class);
    }

    /** As busy(), but reader 0 is at the end of row 0 and of row 1; from its mark on there are four bytes. */
    private static Well atEnd() {
        Well well = busy();
        well.skip(0, 2);
        return well;
    }

    /** As busy(), but reader 2 is open on the empty row 3. */
    private static Well onEmpty() {
        Well well = busy();
        well.open(2, 3);
        return well;
    }

    /** Row 0 has so many bytes, all but the last few passed by reader 0. Row 1 is 21, 22, 23, 24, 25. */
    private static Well withLeft(int many, int left) {
        Well well = new Well();
        openWithLeft(well, 0, 0, many, left);
        set(well, 1, 21, 22, 23, 24, 25);
        return well;
    }

    // Promise 18: read

    static void promise18AnswersBytesFrom0To255() {
        Well well = whole();
        for (int i = 0; i < 256; i++) {
            due("byte " + (i - 128), well.read(2), (i + 128) % 256);
        }
        due("behind them", well.read(2), -1);
    }

    static void promise18AnswersMinus1IfThereIsNone() {
        changesNothing("at the end", EdgesOfReadingTest::atEnd, -1, well -> well.read(0));
        changesNothing("on an empty row", EdgesOfReadingTest::onEmpty, -1, well -> well.read(2));
        Well well = withLeft(256, 1);
        due("the last one", well.read(0), (7 + 3 * 255) & 255);
        for (int i = 0; i < 3; i++) {
            due("none", well.read(0), -1);
            due("left", well.left(0), 0);
        }
    }

    static void promise18APassedOneIsReadAgainAfterGoingBackOnly() {
        Well well = five();
        due("the first", well.read(0), 1);
        well.put(0, 0, 90);
        due("the second", well.read(0), 2);
        well.back(0);
        due("the first again", well.read(0), 90);
    }

    static void promise18RefusesOtherReaders() {
        for (int reader : NO_THREES) {
            refused("read(" + reader + ")", NO_SUCH, well -> well.read(reader));
            refused("read(" + reader + ") of a new one", Well::new, NO_SUCH, well -> well.read(reader));
        }
    }

    static void promise18RefusesOneThatIsNotOpen() {
        refused("read(2)", SHUT, well -> well.read(2));
    }

    // Promise 19: readPart

    static void promise19ReadsAsManyAsAreWanted() {
        for (int many = 1; many <= 5; many++) {
            Well well = withLeft(5, 5);
            due("readPart(0, 1, 0, " + many + ")", well.readPart(0, 1, 0, many), many);
            due("left", well.left(0), 5 - many);
            for (int i = 0; i < 5; i++) {
                due("place " + i, well.get(1, i), i < many ? 7 + 3 * i : 21 + i);
            }
        }
    }

    static void promise19ReadsAsManyAsThereAre() {
        for (int left = 1; left <= 5; left++) {
            Well well = withLeft(6, left);
            due("readPart of " + left, well.readPart(0, 1, 0, 5), left);
            due("left", well.left(0), 0);
            for (int i = 0; i < 5; i++) {
                due("place " + i, well.get(1, i), i < left ? 7 + 3 * (6 - left + i) : 21 + i);
            }
        }
    }

    static void promise19ReadsIntoTheWantedPlacesOnly() {
        Well well = five();
        set(well, 1, 21, 22, 23, 24, 25);
        due("the last place", well.readPart(0, 1, 4, 1), 1);
        due("the first place", well.readPart(0, 1, 0, 1), 1);
        dueRow("the row", well, 1, 2, 22, 23, 24, 1);
        due("places between", well.readPart(0, 1, 1, 3), 3);
        dueRow("the row", well, 1, 2, 3, 4, 5, 1);
    }

    static void promise19ReadsAFullRow() {
        Well well = whole();
        well.make(1, 256);
        due("readPart(2, 1, 0, 256)", well.readPart(2, 1, 0, 256), 256);
        due("they are like", well.isLike(1, 2), true);
        well.back(2);
        due("but the first place", well.readPart(2, 1, 1, 255), 255);
        due("left", well.left(2), 1);
        due("the first place", well.get(1, 0), -128);
        due("the last place", well.get(1, 255), 126);
    }

    static void promise19Answers0IfNoneIsWanted() {
        for (int from = 0; from <= 5; from++) {
            int here = from;
            changesNothing("readPart(1, 0, " + from + ", 0)", Edges::busy, 0, well -> well.readPart(1, 0, here, 0));
            changesNothing("readPart(0, 0, " + from + ", 0)", Edges::busy, 0, well -> well.readPart(0, 0, here, 0));
        }
        changesNothing("of a full row", Edges::busy, 0, well -> well.readPart(0, 2, 256, 0));
        changesNothing("of an empty row", Edges::busy, 0, well -> well.readPart(0, 3, 0, 0));
    }

    static void promise19AnswersMinus1IfNoneIsLeft() {
        for (int many = 0; many <= 5; many++) {
            int here = many;
            changesNothing("readPart(0, 0, 0, " + many + ")", EdgesOfReadingTest::atEnd, -1,
                well -> well.readPart(0, 0, 0, here));
            changesNothing("readPart(2, 0, 0, " + many + ")", EdgesOfReadingTest::onEmpty, -1,
                well -> well.readPart(2, 0, 0, here));
        }
        changesNothing("none wanted, behind the last place", EdgesOfReadingTest::atEnd, -1,
            well -> well.readPart(0, 1, 5, 0));
        changesNothing("none wanted, of an empty row", EdgesOfReadingTest::atEnd, -1,
            well -> well.readPart(0, 3, 0, 0));
        changesNothing("the empty row that it reads", EdgesOfReadingTest::onEmpty, -1,
            well -> well.readPart(2, 3, 0, 0));
    }

    static void promise19RefusesPartsThatAreNotThere() {
        for (int reader = 0; reader < 2; reader++) {
            int here = reader;
            for (int[] part : NO_PARTS_OF_FIVE) {
                refused("readPart(" + reader + ", 0, " + part[0] + ", " + part[1] + ")", NO_SUCH,
                    well -> well.readPart(here, 0, part[0], part[1]));
            }
            for (int[] part : NO_PARTS_OF_FULL) {
                refused("readPart(" + reader + ", 2, " + part[0] + ", " + part[1] + ")", NO_SUCH,
                    well -> well.readPart(here, 2, part[0], part[1]));
            }
            for (int[] part : NO_PARTS_OF_EMPTY) {
                refused("readPart(" + reader + ", 3, " + part[0] + ", " + part[1] + ")", NO_SUCH,
                    well -> well.readPart(here, 3, part[0], part[1]));
            }
        }
    }

    static void promise19RefusesPartsThatAreNotThereAlsoIfNoneIsLeft() {
        for (int[] part : NO_PARTS_OF_FIVE) {
            refused("readPart(0, 1, " + part[0] + ", " + part[1] + ")", EdgesOfReadingTest::atEnd, NO_SUCH,
                well -> well.readPart(0, 1, part[0], part[1]));
        }
        for (int[] part : NO_PARTS_OF_EMPTY) {
            refused("readPart(2, 3, " + part[0] + ", " + part[1] + ")", EdgesOfReadingTest::onEmpty, NO_SUCH,
                well -> well.readPart(2, 3, part[0], part[1]));
        }
    }

    static void promise19RefusesOtherReadersAndRows() {
        for (int reader : NO_THREES) {
            refused("readPart(" + reader + ", 0, 0, 1)", NO_SUCH, well -> well.readPart(reader, 0, 0, 1));
            refused("readPart(" + reader + ", 0, 0, 0)", NO_SUCH, well -> well.readPart(reader, 0, 0, 0));
        }
        for (int row : NO_ROWS) {
            refused("readPart(0, " + row + ", 0, 1)", NO_SUCH, well -> well.readPart(0, row, 0, 1));
            refused("readPart(0, " + row + ", 0, 0)", NO_SUCH, well -> well.readPart(0, row, 0, 0));
            refused("readPart(0, " + row + ", 0, 1) at the end", EdgesOfReadingTest::atEnd, NO_SUCH,
                well -> well.readPart(0, row, 0, 1));
        }
    }

    static void promise19RefusesOneThatIsNotOpen() {
        refused("readPart(2, 0, 0, 5)", SHUT, well -> well.readPart(2, 0, 0, 5));
        refused("readPart(2, 0, 0, 0)", SHUT, well -> well.readPart(2, 0, 0, 0));
        refused("readPart(2, 3, 0, 0)", SHUT, well -> well.readPart(2, 3, 0, 0));
    }

    static void promise19TestsRowAndPlacesBeforeWhetherItIsOpen() {
        for (int row : NO_ROWS) {
            refused("readPart(2, " + row + ", 0, 1)", NO_SUCH, well -> well.readPart(2, row, 0, 1));
        }
        for (int[] part : NO_PARTS_OF_FIVE) {
            refused("readPart(2, 0, " + part[0] + ", " + part[1] + ")", NO_SUCH,
                well -> well.readPart(2, 0, part[0], part[1]));
        }
    }

    static void promise19IntoItsOwnArrayAsIfPutBesideFirst() {
        for (int from = 0; from < 6; from++) {
            for (int place = 0; place < 6; place++) {
                for (int many = 1; from + many <= 6; many++) {
                    dueIntoItsOwn(place, from, many, 0);
                    dueIntoItsOwn(place, from, many, 3);
                }
            }
        }
    }

    /** Of six bytes 1 to 6, read from the place on, into the row that the reader reads or into one that got it. */
    private static void dueIntoItsOwn(int place, int from, int many, int row) {
        String what = "from place " + place + " to " + from + ", many " + many + ", row " + row;
        Well well = new Well();
        set(well, 0, 1, 2, 3, 4, 5, 6);
        well.lend(0, 3);
        well.open(0, 0);
        well.skip(0, place);
        int read = Math.min(many, 6 - place);
        due(what, well.readPart(0, row, from, many), read);
        due(what + ", left", well.left(0), 6 - place - read);
        int[] want = {1, 2, 3, 4, 5, 6};
        for (int i = 0; i < read; i++) {
            want[from + i] = place + i + 1;
        }
        dueRow(what + ", the row", well, 0, want);
    }

    static void promise19IntoItsOwnFullArray() {
        Well well = whole();
        due("upwards", well.readPart(2, 2, 1, 255), 255);
        due("the first", well.get(2, 0), -128);
        for (int i = 1; i < 256; i++) {
            due("place " + i, well.get(2, i), i - 129);
        }
        due("the last one is ahead", well.read(2), 126);
    }

    // Promise 20: readFull

    static void promise20ReadsAsManyAsAreWanted() {
        for (int many = 1; many <= 5; many++) {
            Well well = withLeft(5, 5);
            due("readFull(0, 1, 0, " + many + ")", well.readFull(0, 1, 0, many), many);
            due("left", well.left(0), 5 - many);
            for (int i = 0; i < 5; i++) {
                due("place " + i, well.get(1, i), i < many ? 7 + 3 * i : 21 + i);
            }
        }
    }

    static void promise20ReadsAsManyAsThereAre() {
        for (int left = 1; left <= 5; left++) {
            Well well = withLeft(6, left);
            due("readFull of " + left, well.readFull(0, 1, 0, 5), left);
            due("left", well.left(0), 0);
            for (int i = 0; i < 5; i++) {
                due("place " + i, well.get(1, i), i < left ? 7 + 3 * (6 - left + i) : 21 + i);
            }
        }
    }

    static void promise20ReadsIntoTheWantedPlacesOnly() {
        Well well = five();
        set(well, 1, 21, 22, 23, 24, 25);
        due("the last place", well.readFull(0, 1, 4, 1), 1);
        due("the first place", well.readFull(0, 1, 0, 1), 1);
        due("places between", well.readFull(0, 1, 1, 2), 2);
        dueRow("the row", well, 1, 2, 3, 4, 24, 1);
    }

    static void promise20ReadsAFullRow() {
        Well well = whole();
        well.make(1, 256);
        due("readFull(2, 1, 0, 256)", well.readFull(2, 1, 0, 256), 256);
        due("they are like", well.isLike(1, 2), true);
        due("left", well.left(2), 0);
    }

    static void promise20Answers0IfNoneIsWanted() {
        for (int from = 0; from <= 5; from++) {
            int here = from;
            changesNothing("readFull(1, 0, " + from + ", 0)", Edges::busy, 0, well -> well.readFull(1, 0, here, 0));
        }
        changesNothing("of a full row", Edges::busy, 0, well -> well.readFull(0, 2, 256, 0));
        changesNothing("of an empty row", Edges::busy, 0, well -> well.readFull(0, 3, 0, 0));
    }

    static void promise20Answers0IfNoneIsLeft() {
        for (int many = 0; many <= 5; many++) {
            int here = many;
            changesNothing("readFull(0, 2, 0, " + many + ")", EdgesOfReadingTest::atEnd, 0,
                well -> well.readFull(0, 2, 0, here));
            changesNothing("readFull(2, 0, 0, " + many + ")", EdgesOfReadingTest::onEmpty, 0,
                well -> well.readFull(2, 0, 0, here));
        }
        changesNothing("of an empty row", EdgesOfReadingTest::atEnd, 0, well -> well.readFull(0, 3, 0, 0));
    }

    static void promise20RefusesPartsThatAreNotThere() {
        for (int reader = 0; reader < 2; reader++) {
            int here = reader;
            for (int[] part : NO_PARTS_OF_FULL) {
                refused("readFull(" + reader + ", 2, " + part[0] + ", " + part[1] + ")", NO_SUCH,
                    well -> well.readFull(here, 2, part[0], part[1]));
            }
            for (int[] part : NO_PARTS_OF_EMPTY) {
                refused("readFull(" + reader + ", 3, " + part[0] + ", " + part[1] + ")", NO_SUCH,
                    well -> well.readFull(here, 3, part[0], part[1]));
            }
        }
        for (int[] part : NO_PARTS_OF_FIVE) {
            refused("readFull(1, 0, " + part[0] + ", " + part[1] + ")", NO_SUCH,
                well -> well.readFull(1, 0, part[0], part[1]));
        }
    }

    static void promise20RefusesPartsThatAreNotThereAlsoIfNoneIsLeft() {
        for (int[] part : NO_PARTS_OF_FIVE) {
            refused("readFull(2, 0, " + part[0] + ", " + part[1] + ")", EdgesOfReadingTest::onEmpty, NO_SUCH,
                well -> well.readFull(2, 0, part[0], part[1]));
        }
    }

    static void promise20RefusesOtherReadersAndRows() {
        for (int reader : NO_THREES) {
            refused("readFull(" + reader + ", 0, 0, 1)", NO_SUCH, well -> well.readFull(reader, 0, 0, 1));
            refused("readFull(" + reader + ", 0, 0, 0)", NO_SUCH, well -> well.readFull(reader, 0, 0, 0));
        }
        for (int row : NO_ROWS) {
            refused("readFull(0, " + row + ", 0, 1)", NO_SUCH, well -> well.readFull(0, row, 0, 1));
            refused("readFull(0, " + row + ", 0, 0)", NO_SUCH, well -> well.readFull(0, row, 0, 0));
        }
    }

    static void promise20RefusesOneThatIsNotOpen() {
        refused("readFull(2, 0, 0, 5)", SHUT, well -> well.readFull(2, 0, 0, 5));
        refused("readFull(2, 0, 0, 0)", SHUT, well -> well.readFull(2, 0, 0, 0));
        refused("readFull(2, 3, 0, 0)", SHUT, well -> well.readFull(2, 3, 0, 0));
    }

    static void promise20TestsRowAndPlacesBeforeWhetherItIsOpen() {
        for (int row : NO_ROWS) {
            refused("readFull(2, " + row + ", 0, 1)", NO_SUCH, well -> well.readFull(2, row, 0, 1));
        }
        for (int[] part : NO_PARTS_OF_FIVE) {
            refused("readFull(2, 0, " + part[0] + ", " + part[1] + ")", NO_SUCH,
                well -> well.readFull(2, 0, part[0], part[1]));
        }
    }

    static void promise20RefusesTheVeryArrayThatItReads() {
        refused("the row that it was opened on", ILLEGAL, well -> well.readFull(0, 0, 0, 1));
        refused("all of it", ILLEGAL, well -> well.readFull(0, 0, 0, 5));
        refused("one that got it", ILLEGAL, well -> well.readFull(0, 1, 4, 1));
        refused("none wanted", ILLEGAL, well -> well.readFull(0, 0, 5, 0));
        refused("none left", EdgesOfReadingTest::atEnd, ILLEGAL, well -> well.readFull(0, 0, 0, 1));
        refused("none left and none wanted", EdgesOfReadingTest::atEnd, ILLEGAL,
            well -> well.readFull(0, 1, 0, 0));
        refused("an empty one", EdgesOfReadingTest::onEmpty, ILLEGAL, well -> well.readFull(2, 3, 0, 0));
        refused("a full one", Edges::whole, ILLEGAL, well -> well.readFull(2, 2, 0, 256));
    }

    static void promise20TestsThePlacesBeforeTheArray() {
        for (int[] part : NO_PARTS_OF_FIVE) {
            refused("readFull(0, 0, " + part[0] + ", " + part[1] + ")", NO_SUCH,
                well -> well.readFull(0, 0, part[0], part[1]));
        }
        for (int[] part : NO_PARTS_OF_EMPTY) {
            refused("readFull(2, 3, " + part[0] + ", " + part[1] + ")", EdgesOfReadingTest::onEmpty, NO_SUCH,
                well -> well.readFull(2, 3, part[0], part[1]));
        }
    }

    static void promise20TakesAnArrayThatIsOnlyLikeIt() {
        Well well = five();
        set(well, 1, 1, 2, 3, 4, 5);
        due("another one", well.readFull(0, 1, 0, 2), 2);
        well.make(0, 5);
        due("its own row made anew", well.readFull(0, 0, 0, 5), 3);
        dueRow("its own row made anew", well, 0, 3, 4, 5, 0, 0);
        well.open(1, 2);
        due("another empty one", well.readFull(1, 3, 0, 0), 0);
    }

    // Promise 21: readSome

    static void promise21MakesARowOfAsManyAsAreWanted() {
        for (int many = 0; many <= 5; many++) {
            Well well = withLeft(5, 5);
            due("readSome(0, 1, " + many + ")", well.readSome(0, 1, many), many);
            due("its length", well.length(1), many);
            due("left", well.left(0), 5 - many);
            for (int i = 0; i < many; i++) {
                due("place " + i, well.get(1, i), 7 + 3 * i);
            }
        }
    }

    static void promise21MakesARowOfAsManyAsThereAre() {
        for (int many : new int[] {3, 4, 5, 256, 257, 65536, MAX - 1, MAX}) {
            Well well = withLeft(5, 3);
            due("readSome(0, 1, " + many + ")", well.readSome(0, 1, many), 3);
            due("left", well.left(0), 0);
            dueRow("the row", well, 1, 13, 16, 19);
        }
    }

    static void promise21OfNoneTheRowIsEmpty() {
        for (int many : new int[] {0, 1, MAX}) {
            Well well = atEnd();
            due("none left, " + many + " wanted", well.readSome(0, 2, many), 0);
            due("its length", well.length(2), 0);
            well = onEmpty();
            due("of an empty row, " + many + " wanted", well.readSome(2, 2, many), 0);
            due("its length", well.length(2), 0);
        }
        Well well = busy();
        due("none wanted", well.readSome(0, 2, 0), 0);
        due("its length", well.length(2), 0);
        due("left", well.left(0), 2);
    }

    static void promise21OfAFullRow() {
        Well well = whole();
        due("readSome(2, 1, 256)", well.readSome(2, 1, 256), 256);
        due("they are like", well.isLike(1, 2), true);
        due("they are the same", areSameArray(well, 1, 2), false);
    }

    static void promise21GivesAnotherArrayAlsoIfEmpty() {
        for (int many = 0; many <= 2; many++) {
            Well well = five();
            well.make(1, many);
            well.lend(1, 3);
            well.readSome(0, 1, many);
            due("the former one of " + many, areSameArray(well, 1, 3), false);
            well.readSome(0, 3, many);
            due("two of " + many, areSameArray(well, 1, 3), false);
        }
    }

    static void promise21OfAllItIsNotTheVeryArrayThatItReads() {
        for (int many = 0; many <= 5; many++) {
            Well well = withLeft(many, many);
            due("readSome(0, 2, " + many + ")", well.readSome(0, 2, many), many);
            due("the same array", areSameArray(well, 0, 2), false);
            well.fill(2, 0, many, 99, 1);
            well.back(0);
            due("what is put there is not in it", well.read(0), many == 0 ? -1 : 7);
        }
    }

    static void promise21IntoTheRowThatItReadsItGoesOnWithTheFormerOne() {
        Well well = five();
        well.lend(0, 1);
        due("readSome(0, 0, 2)", well.readSome(0, 0, 2), 2);
        dueRow("the row", well, 0, 1, 2);
        well.fill(0, 0, 2, 90, 1);
        dueRow("the row that got the former one", well, 1, 1, 2, 3, 4, 5);
        dueAhead("what is left", well, 0, 3, 4, 5);
        due("back(0)", well.back(0), 5);
    }

    static void promise21RefusesFewerThan0() {
        for (int many : new int[] {-1, -256, MIN}) {
            refused("readSome(0, 0, " + many + ")", ILLEGAL, well -> well.readSome(0, 0, many));
            refused("readSome(1, 3, " + many + ")", ILLEGAL, well -> well.readSome(1, 3, many));
            refused("none left", EdgesOfReadingTest::atEnd, ILLEGAL, well -> well.readSome(0, 0, many));
        }
    }

    static void promise21RefusesOtherReadersAndRows() {
        for (int reader : NO_THREES) {
            refused("readSome(" + reader + ", 0, 1)", NO_SUCH, well -> well.readSome(reader, 0, 1));
        }
        for (int row : NO_ROWS) {
            refused("readSome(0, " + row + ", 1)", NO_SUCH, well -> well.readSome(0, row, 1));
            refused("readSome(0, " + row + ", 0)", NO_SUCH, well -> well.readSome(0, row, 0));
        }
    }

    static void promise21RefusesOneThatIsNotOpen() {
        refused("readSome(2, 0, 1)", SHUT, well -> well.readSome(2, 0, 1));
        refused("readSome(2, 0, 0)", SHUT, well -> well.readSome(2, 0, 0));
        refused("readSome(2, 3, MAX)", SHUT, well -> well.readSome(2, 3, MAX));
    }

    static void promise21TestsReaderAndRowFirst() {
        for (int row : NO_ROWS) {
            refused("readSome(0, " + row + ", -1)", NO_SUCH, well -> well.readSome(0, row, -1));
            refused("readSome(2, " + row + ", 1)", NO_SUCH, well -> well.readSome(2, row, 1));
            refused("readSome(2, " + row + ", -1)", NO_SUCH, well -> well.readSome(2, row, -1));
        }
        for (int reader : NO_THREES) {
            refused("readSome(" + reader + ", 0, -1)", NO_SUCH, well -> well.readSome(reader, 0, -1));
        }
    }

    static void promise21TestsHowManyBeforeWhetherItIsOpen() {
        refused("readSome(2, 0, -1)", ILLEGAL, well -> well.readSome(2, 0, -1));
        refused("readSome(2, 0, MIN)", ILLEGAL, well -> well.readSome(2, 0, MIN));
    }

    // Promise 22: readNumber

    static void promise22ReadsTheHighestByteFirst() {
        int[] numbers = {
            0, 1, -1, MIN, MAX, 127, 128, 255, 256, -128, -129, 32767, 32768, 65535, 65536, -65536, 8388608,
            0x01020304, 0x81828384, 0x7F80FF00, 0x00FF0080, 0x80000080,
        };
        for (int number : numbers) {
            Well well = new Well();
            set(well, 0, number >> 24, number >> 16, number >> 8, number);
            well.open(0, 0);
            due("the bytes of " + number, well.readNumber(0), number);
            due("left", well.left(0), 0);
            well.writeNumber(0, number);
            well.take(0, 1);
            well.open(1, 1);
            due("what was written of " + number, well.readNumber(1), number);
        }
    }

    static void promise22ReadsFourIfThereAreFourOrMore() {
        Well well = withLeft(9, 4);
        due("the last four", well.readNumber(0), 0x16191C1F);
        due("left", well.left(0), 0);
        well = withLeft(9, 5);
        due("of five", well.readNumber(0), 0x1316191C);
        due("left", well.left(0), 1);
    }

    static void promise22ReadsAFullRow() {
        Well well = whole();
        for (int i = 0; i < 64; i++) {
            int first = (4 * i + 128) & 255;
            due("number " + i, well.readNumber(2), first << 24 | first + 1 << 16 | first + 2 << 8 | first + 3);
        }
        dueThrown("number 64", FEWER, () -> well.readNumber(2));
    }

    static void promise22RefusesFewerThanFour() {
        for (int left = 0; left <= 3; left++) {
            int here = left;
            refused(left + " left of nine", () -> withLeft(9, here), FEWER, well -> well.readNumber(0));
            refused("all of " + left + " left", () -> withLeft(here, here), FEWER, well -> well.readNumber(0));
        }
        refused("at the end", EdgesOfReadingTest::atEnd, FEWER, well -> well.readNumber(0));
        refused("on an empty row", EdgesOfReadingTest::onEmpty, FEWER, well -> well.readNumber(2));
        refused("two left, marked with four left", FEWER, well -> well.readNumber(0));
    }

    static void promise22RefusesOtherReaders() {
        for (int reader : NO_THREES) {
            refused("readNumber(" + reader + ")", NO_SUCH, well -> well.readNumber(reader));
        }
    }

    static void promise22RefusesOneThatIsNotOpen() {
        refused("readNumber(2)", SHUT, well -> well.readNumber(2));
    }

    // Promise 23: readLine

    private static Well lines(int... bytes) {
        Well well = new Well();
        set(well, 0, bytes);
        set(well, 1, 21, 22, 23);
        well.open(0, 0);
        return well;
    }

    static void promise23UpToTheNextByte10WhichIsPassed() {
        Well well = lines(65, 66, 10, 67, 10, 68);
        due("the first", well.readLine(0, 1), 2);
        dueRow("the first", well, 1, 65, 66);
        due("left", well.left(0), 3);
        due("the second", well.readLine(0, 1), 1);
        dueRow("the second", well, 1, 67);
        due("left", well.left(0), 1);
    }

    static void promise23OfNoByteBeforeByte10TheRowIsEmpty() {
        Well well = lines(10, 10, 5);
        due("the first", well.readLine(0, 1), 0);
        due("its length", well.length(1), 0);
        due("left", well.left(0), 2);
        set(well, 1, 21);
        due("the second", well.readLine(0, 1), 0);
        due("its length", well.length(1), 0);
        due("left", well.left(0), 1);
        well = lines(10);
        due("of byte 10 alone", well.readLine(0, 1), 0);
        due("its length", well.length(1), 0);
        due("left", well.left(0), 0);
    }

    static void promise23AllThatAreLeftIfThereIsNoByte10() {
        Well well = lines(10, 65, 66);
        well.read(0);
        due("without its end", well.readLine(0, 1), 2);
        dueRow("without its end", well, 1, 65, 66);
        due("left", well.left(0), 0);
        well = lines(65);
        due("of one byte", well.readLine(0, 1), 1);
        dueRow("of one byte", well, 1, 65);
    }

    static void promise23BehindALastByte10ThereIsNone() {
        Well well = lines(65, 10);
        due("the line", well.readLine(0, 1), 1);
        due("left", well.left(0), 0);
        due("none", well.readLine(0, 1), -1);
        dueRow("the row stays", well, 1, 65);
    }

    static void promise23IfNoneIsLeftTheRowStays() {
        for (int row = 0; row < 4; row++) {
            int here = row;
            changesNothing("readLine(0, " + row + ")", EdgesOfReadingTest::atEnd, -1,
                well -> well.readLine(0, here));
            changesNothing("readLine(2, " + row + ")", EdgesOfReadingTest::onEmpty, -1,
                well -> well.readLine(2, here));
        }
    }

    static void promise23OnlyByte10EndsALine() {
        Well well = new Well();
        full(well, 0);
        well.open(0, 0);
        due("up to 10", well.readLine(0, 1), 138);
        due("its first", well.get(1, 0), -128);
        due("its last", well.get(1, 137), 9);
        due("left", well.left(0), 117);
        due("from 11 on", well.readLine(0, 1), 117);
        due("its first", well.get(1, 0), 11);
        due("its last", well.get(1, 116), 127);
        well = lines(65, 13, 10, 13, 10, 0, 138, 10);
        due("byte 13 before it is kept", well.readLine(0, 1), 2);
        dueRow("byte 13 before it is kept", well, 1, 65, 13);
        due("byte 13 alone is kept", well.readLine(0, 1), 1);
        dueRow("byte 13 alone is kept", well, 1, 13);
        due("bytes 0 and 138 are none", well.readLine(0, 1), 2);
        dueRow("bytes 0 and 138 are none", well, 1, 0, -118);
    }

    static void promise23OfAFullRow() {
        Well well = new Well();
        well.make(0, 256);
        well.fill(0, 0, 256, 11, 0);
        well.open(0, 0);
        due("without byte 10", well.readLine(0, 1), 256);
        due("they are like", well.isLike(0, 1), true);
        due("left", well.left(0), 0);
        well.put(0, 255, 10);
        well.back(0);
        due("with a last byte 10", well.readLine(0, 1), 255);
        due("left", well.left(0), 0);
        well.put(0, 0, 10);
        well.back(0);
        due("with a first byte 10", well.readLine(0, 1), 0);
        due("then up to the last", well.readLine(0, 1), 254);
        due("none", well.readLine(0, 1), -1);
    }

    static void promise23GivesAnotherArrayAlsoIfEmpty() {
        Well well = lines(10, 65, 10);
        well.lend(3, 1);
        well.readLine(0, 1);
        due("an empty one", areSameArray(well, 1, 3), false);
        well.lend(1, 3);
        well.readLine(0, 1);
        due("one of one byte", areSameArray(well, 1, 3), false);
        due("the former one", well.length(3), 0);
        well = lines(10, 10);
        well.readLine(0, 1);
        well.readLine(0, 3);
        due("two empty ones", areSameArray(well, 1, 3), false);
    }

    static void promise23OfAllItIsNotTheVeryArrayThatItReads() {
        Well well = lines(65, 66, 67);
        due("readLine(0, 1)", well.readLine(0, 1), 3);
        due("the same array", areSameArray(well, 0, 1), false);
        well.fill(1, 0, 3, 0, 0);
        dueRow("what is put there is not in it", well, 0, 65, 66, 67);
    }

    static void promise23IntoTheRowThatItReadsItGoesOnWithTheFormerOne() {
        Well well = lines(65, 10, 66, 10, 67);
        well.lend(0, 2);
        due("the first", well.readLine(0, 0), 1);
        dueRow("the first", well, 0, 65);
        due("the second", well.readLine(0, 0), 1);
        dueRow("the second", well, 0, 66);
        due("left", well.left(0), 1);
        dueRow("the former one", well, 2, 65, 10, 66, 10, 67);
    }

    static void promise23RefusesOtherReadersAndRows() {
        for (int reader : NO_THREES) {
            refused("readLine(" + reader + ", 0)", NO_SUCH, well -> well.readLine(reader, 0));
        }
        for (int row : NO_ROWS) {
            refused("readLine(0, " + row + ")", NO_SUCH, well -> well.readLine(0, row));
            refused("readLine(0, " + row + ") at the end", EdgesOfReadingTest::atEnd, NO_SUCH,
                well -> well.readLine(0, row));
        }
    }

    static void promise23RefusesOneThatIsNotOpen() {
        for (int row = 0; row < 4; row++) {
            int here = row;
            refused("readLine(2, " + row + ")", SHUT, well -> well.readLine(2, here));
        }
    }

    static void promise23TestsTheRowBeforeWhetherItIsOpen() {
        for (int row : NO_ROWS) {
            refused("readLine(2, " + row + ")", NO_SUCH, well -> well.readLine(2, row));
        }
    }

    // Promise 24: find

    static void promise24FindsEachByteFrom0To255() {
        for (int number = 0; number < 256; number++) {
            Well well = whole();
            int place = (number + 128) % 256;
            due("find(2, " + number + ")", well.find(2, number), place + 1);
            due("left", well.left(2), 255 - place);
        }
    }

    static void promise24AnotherNumberIsNone() {
        for (int number : new int[] {-1, -128, -255, -256, 256, 257, 511, 65536, MIN, MIN + 5, MAX}) {
            Well well = whole();
            due("find(2, " + number + ")", well.find(2, number), -257);
            due("left", well.left(2), 0);
            due("again", well.find(2, number), -1);
        }
    }

    static void promise24CountsThatOne() {
        Well well = five();
        due("the next one", well.find(0, 1), 1);
        due("left", well.left(0), 4);
        due("the last one", well.find(0, 5), 4);
        due("left", well.left(0), 0);
        well.back(0);
        well.put(0, 3, 2);
        due("the first of two", well.find(0, 2), 2);
        due("the second of two", well.find(0, 2), 2);
        due("the next byte", well.read(0), 5);
    }

    static void promise24AnswersMinus1LessTheReadIfItWasNotThere() {
        for (int left = 0; left <= 5; left++) {
            Well well = withLeft(5, left);
            due("of " + left, well.find(0, 0), -1 - left);
            due("left", well.left(0), 0);
        }
        Well well = five();
        well.read(0);
        due("one that is behind it", well.find(0, 1), -5);
    }

    static void promise24OfNoneLeft() {
        for (int number : new int[] {0, 1, 5, 255, 256, -1}) {
            changesNothing("at the end", EdgesOfReadingTest::atEnd, -1, well -> well.find(0, number));
            changesNothing("on an empty row", EdgesOfReadingTest::onEmpty, -1, well -> well.find(2, number));
        }
    }

    static void promise24RefusesOtherReaders() {
        for (int reader : NO_THREES) {
            refused("find(" + reader + ", 1)", NO_SUCH, well -> well.find(reader, 1));
            refused("find(" + reader + ", 256)", NO_SUCH, well -> well.find(reader, 256));
        }
    }

    static void promise24RefusesOneThatIsNotOpen() {
        refused("find(2, 1)", SHUT, well -> well.find(2, 1));
        refused("find(2, -1)", SHUT, well -> well.find(2, -1));
    }

    // Promise 25: skip

    static void promise25SkipsAsManyAsAreWanted() {
        for (int many = 1; many <= 5; many++) {
            Well well = withLeft(5, 5);
            due("skip(0, " + many + ")", well.skip(0, many), (long) many);
            due("left", well.left(0), 5 - many);
            due("the next", well.read(0), many == 5 ? -1 : 7 + 3 * many);
        }
        Well well = whole();
        due("all of a full row", well.skip(2, 256), 256L);
        due("left", well.left(2), 0);
    }

    static void promise25SkipsAsManyAsThereAre() {
        long[] wanted = {
            3, 4, 257, MAX, 1L + MAX, (1L << 32) - 1, 1L << 32, (1L << 32) + 1, 1L << 40, Long.MAX_VALUE - 1,
            Long.MAX_VALUE,
        };
        for (long many : wanted) {
            Well well = withLeft(5, 3);
            due("skip(0, " + many + ")", well.skip(0, many), 3L);
            due("left", well.left(0), 0);
        }
    }

    static void promise25OfNone() {
        changesNothing("none wanted", Edges::busy, 0L, well -> well.skip(0, 0));
        for (long many : new long[] {0, 1, MAX, 1L << 32, Long.MAX_VALUE}) {
            changesNothing("none left, wanted " + many, EdgesOfReadingTest::atEnd, 0L, well -> well.skip(0, many));
            changesNothing("of an empty row " + many, EdgesOfReadingTest::onEmpty, 0L, well -> well.skip(2, many));
        }
    }

    static void promise25RefusesFewerThan0() {
        for (long many : new long[] {-1, -4, MIN, MIN - 1L, -(1L << 32), 1 - (1L << 32), Long.MIN_VALUE}) {
            refused("skip(0, " + many + ")", ILLEGAL, well -> well.skip(0, many));
            refused("none left", EdgesOfReadingTest::atEnd, ILLEGAL, well -> well.skip(0, many));
        }
    }

    static void promise25RefusesOtherReaders() {
        for (int reader : NO_THREES) {
            refused("skip(" + reader + ", 1)", NO_SUCH, well -> well.skip(reader, 1));
        }
    }

    static void promise25RefusesOneThatIsNotOpen() {
        refused("skip(2, 1)", SHUT, well -> well.skip(2, 1));
        refused("skip(2, 0)", SHUT, well -> well.skip(2, 0));
    }

    static void promise25TestsTheReaderThenHowManyThenWhetherItIsOpen() {
        for (int reader : NO_THREES) {
            refused("skip(" + reader + ", -1)", NO_SUCH, well -> well.skip(reader, -1));
        }
        refused("skip(2, -1)", ILLEGAL, well -> well.skip(2, -1));
        refused("skip(2, Long.MIN_VALUE)", ILLEGAL, well -> well.skip(2, Long.MIN_VALUE));
    }
}
