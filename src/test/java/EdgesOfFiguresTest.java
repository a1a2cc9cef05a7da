/** The boundary cases of promises 32 to 35, a test for each sentence that names one. */
public final class EdgesOfFiguresTest extends Edges {
    private EdgesOfFiguresTest() {
    }

    public static void main(String[] args) {
        Check.runAll(EdgesOfFiguresTest.class);
    }

    private static Well onEmpty() {
        Well well = busy();
        well.open(2, 3);
        return well;
    }

    private static Well gathered(int first, int second, int third) {
        Well well = new Well();
        gather(well, 0, 0, first);
        gather(well, 1, 0, second);
        gather(well, 2, 0, third);
        return well;
    }

    // Promise 32: leftShare

    static void promise32OfAllAndOfNoneLeft() {
        changesNothing("all of a full row", Edges::whole, 1.0f, well -> well.leftShare(2));
        changesNothing("two of five", Edges::busy, 2.0f / 5.0f, well -> well.leftShare(0));
        changesNothing("three of six", Edges::busy, 0.5f, well -> well.leftShare(1));
        Well well = five();
        due("all", well.leftShare(0), 1.0f);
        well.skip(0, 5);
        due("none", well.leftShare(0), 0.0f);
    }

    static void promise32OfEachPlaceOfRows() {
        for (int length : new int[] {1, 2, 3, 7, 255, 256}) {
            Well well = new Well();
            well.make(0, length);
            well.open(0, 0);
            for (int left = length; left > Math.max(0, length - 200); left--) {
                due(left + " of " + length, well.leftShare(0), (float) left / (float) length);
                well.read(0);
            }
        }
    }

    static void promise32IsOfTheArrayThatItReads() {
        Well well = five();
        well.read(0);
        well.make(0, 256);
        due("its row made anew", well.leftShare(0), 0.8f);
        well.make(0, 0);
        due("its row made empty", well.leftShare(0), 0.8f);
        well.mark(0, 0);
        well.read(0);
        due("not from its mark", well.leftShare(0), 0.6f);
    }

    static void promise32RefusesAnEmptyArray() {
        refused("leftShare(2)", EdgesOfFiguresTest::onEmpty, NO_SHARE, well -> well.leftShare(2));
        Well well = new Well();
        well.open(0, 0);
        well.make(0, 5);
        dueThrown("its row is not empty any more", NO_SHARE, () -> well.leftShare(0));
    }

    static void promise32RefusesOtherReaders() {
        for (int reader : NO_THREES) {
            refused("leftShare(" + reader + ")", NO_SUCH, well -> well.leftShare(reader));
        }
    }

    static void promise32RefusesOneThatIsNotOpen() {
        refused("leftShare(2)", SHUT, well -> well.leftShare(2));
        refused("leftShare(0) of a new one", Well::new, SHUT, well -> well.leftShare(0));
    }

    // Promise 33: meanSize

    static void promise33OfOneThatHasBytes() {
        for (int many : new int[] {1, 2, 255, 256}) {
            changesNothing("the first, " + many, () -> gathered(many, 0, 0), (double) many, Well::meanSize);
            changesNothing("the second, " + many, () -> gathered(0, many, 0), (double) many, Well::meanSize);
            changesNothing("the third, " + many, () -> gathered(0, 0, many), (double) many, Well::meanSize);
        }
    }

    static void promise33OfTwoAndOfThree() {
        due("1, 2", gathered(1, 2, 0).meanSize(), 1.5);
        due("0, 1, 256", gathered(0, 1, 256).meanSize(), 128.5);
        due("255, 0, 256", gathered(255, 0, 256).meanSize(), 255.5);
        due("1, 1, 2", gathered(1, 1, 2).meanSize(), 4.0 / 3.0);
        due("256, 256, 255", gathered(256, 256, 255).meanSize(), 767.0 / 3.0);
        due("all full", gathered(256, 256, 256).meanSize(), 256.0);
    }

    static void promise33RefusesIfNoneHasBytes() {
        refused("a new one", Well::new, NO_SHARE, Well::meanSize);
        refused("all emptied", () -> {
            Well well = gathered(1, 2, 256);
            well.empty(0);
            well.empty(1);
            well.empty(2);
            return well;
        }, NO_SHARE, Well::meanSize);
        Well well = gathered(1, 0, 0);
        well.take(0, 3);
        due("what is taken stays", well.meanSize(), 1.0);
    }

    // Promise 34: checksum

    private static long sumOf(long... members) {
        long sum = 7;
        for (long member : members) {
            sum = 31 * sum + member;
        }
        return sum;
    }

    static void promise34AtFirst() {
        changesNothing("a new one", Well::new, sumOf(0, 0, 0, 0, 0, 0, 0, -1, -1, -1), Well::checksum);
    }

    static void promise34OfEachPartInItsTurn() {
        Well well = new Well();
        set(well, 0, -128);
        set(well, 1, 127, 0);
        set(well, 2, -1);
        set(well, 3, 1, 2, 3);
        well.write(0, 128);
        well.write(1, 255);
        well.write(1, 127);
        well.write(2, 0);
        well.open(0, 3);
        well.open(1, 1);
        well.read(1);
        well.open(2, 0);
        well.read(2);
        due("checksum()", well.checksum(),
            sumOf(1, -128, 2, 127, 0, 1, -1, 3, 1, 2, 3, 1, -128, 2, -1, 127, 1, 0, 3, 1, 0));
    }

    static void promise34OneThatIsNotOpenIsMinus1OneAtItsEndIs0() {
        Well well = new Well();
        well.open(1, 0);
        due("on an empty row", well.checksum(), sumOf(0, 0, 0, 0, 0, 0, 0, -1, 0, -1));
        set(well, 0, 5);
        well.open(2, 0);
        due("at its begin", well.checksum(), sumOf(1, 5, 0, 0, 0, 0, 0, 0, -1, 0, 1));
        well.read(2);
        due("at its end", well.checksum(), sumOf(1, 5, 0, 0, 0, 0, 0, 0, -1, 0, 0));
    }

    static void promise34OfAllFullALongThatGoesRound() {
        Well well = new Well();
        long[] members = new long[7 * 257 + 3];
        int next = 0;
        for (int i = 0; i < 7; i++) {
            members[next++] = 256;
            for (int place = 0; place < 256; place++) {
                members[next++] = (byte) (100 + 40 * Math.min(i, 4) + 3 * place);
            }
        }
        for (int row = 0; row < 4; row++) {
            well.make(row, 256);
            well.fill(row, 0, 256, 100 + 40 * row, 3);
        }
        well.make(0, 256);
        well.fill(0, 0, 256, 260, 3);
        for (int i = 0; i < 3; i++) {
            well.writeRow(i, 0);
            well.open(i, i);
            members[next++] = 256;
        }
        well.fill(0, 0, 256, 100, 3);
        due("checksum()", well.checksum(), sumOf(members));
    }

    static void promise34OfARowThatIsLentForEachOfThem() {
        Well well = new Well();
        set(well, 0, 5, 6);
        well.lend(0, 3);
        due("checksum()", well.checksum(), sumOf(2, 5, 6, 0, 0, 2, 5, 6, 0, 0, 0, -1, -1, -1));
    }

    static void promise34NothingOfWhatWasEmptiedOrPassedOrMarked() {
        Well well = five();
        well.writeRow(0, 0);
        well.empty(0);
        well.write(0, 9);
        due("emptied and written", well.checksum(), sumOf(5, 1, 2, 3, 4, 5, 0, 0, 0, 1, 9, 0, 0, 5, -1, -1));
        well.read(0);
        well.mark(0, 77);
        due("marked", well.checksum(), sumOf(5, 1, 2, 3, 4, 5, 0, 0, 0, 1, 9, 0, 0, 4, -1, -1));
        well.make(0, 0);
        due("on a former array", well.checksum(), sumOf(0, 0, 0, 0, 1, 9, 0, 0, 4, -1, -1));
    }

    static void promise34ChangesNothing() {
        changesNothing("checksum()", Edges::busy, busy().checksum(), Well::checksum);
    }

    // Promise 35: isTrue

    static void promise35ChangesNothing() {
        changesNothing("a new one", Well::new, true, Well::isTrue);
        changesNothing("one with all kinds", Edges::busy, true, Well::isTrue);
        changesNothing("on an empty row", EdgesOfFiguresTest::onEmpty, true, Well::isTrue);
        changesNothing("on a full row", Edges::whole, true, Well::isTrue);
        changesNothing("with all full", () -> gathered(256, 256, 256), true, Well::isTrue);
        changesNothing("with all rows and readers", Edges::crowded, true, Well::isTrue);
        changesNothing("with full and empty", () -> gathered(0, 256, 1), true, Well::isTrue);
        for (int many = 0; many <= 4; many++) {
            int here = many;
            changesNothing("parts of three, " + many, () -> gathered(here, here + 3, 255), true, Well::isTrue);
        }
    }

    static void promise35WithGatherersThatHaveNoRoom() {
        Well well = gathered(256, 256, 256);
        full(well, 0);
        for (int i = 0; i < 3; i++) {
            well.open(i, 0);
            due("a reader more", well.isTrue(), true);
        }
        due("size", well.size(0) + well.size(1) + well.size(2), 768);
    }

    static void promise35AfterEachCallOfAReader() {
        Check.Use[] calls = {
            well -> well.read(2),
            well -> well.readPart(2, 0, 0, 3),
            well -> well.readPart(2, 2, 5, 3),
            well -> well.readFull(2, 0, 0, 3),
            well -> well.readSome(2, 3, 3),
            well -> well.readNumber(2),
            well -> well.readLine(2, 3),
            well -> well.find(2, 200),
            well -> well.find(2, 1000),
            well -> well.skip(2, 100),
            well -> well.skip(2, Long.MAX_VALUE),
            well -> well.mark(2, 1),
            well -> well.back(2),
            well -> well.pour(2, 0),
            well -> well.pourParts(2, 0, 64),
            well -> well.pourParts(2, 0, 1),
            well -> well.alike(2, 1),
            well -> well.alike(0, 2),
            well -> well.open(2, 0),
        };
        for (int i = 0; i < calls.length; i++) {
            for (int j = 0; j < calls.length; j++) {
                Well well = whole();
                set(well, 0, -128, -127, 10, 10, 5);
                well.open(0, 0);
                well.open(1, 2);
                tried(calls[i], well);
                due("after call " + i, well.isTrue(), true);
                tried(calls[j], well);
                due("after calls " + i + " and " + j, well.isTrue(), true);
                well.back(2);
                due("after these and back", well.isTrue(), true);
            }
        }
    }

    /** The call may be refused, since nothing is left. */
    private static void tried(Check.Use call, Well well) {
        Check.outcome(() -> call.of(well));
    }

    static void promise35AfterRefusedCalls() {
        Well well = busy();
        dueThrown("readNumber(0)", FEWER, () -> well.readNumber(0));
        dueThrown("pour(0, 1)", FULL, () -> well.pour(0, 1));
        dueThrown("pourParts(0, 1, 1)", FULL, () -> well.pourParts(0, 1, 1));
        dueThrown("alike(0, 2)", SHUT, () -> well.alike(0, 2));
        dueThrown("readPart(0, 0, 0, 6)", NO_SUCH, () -> well.readPart(0, 0, 0, 6));
        dueThrown("readFull(0, 0, 0, 5)", ILLEGAL, () -> well.readFull(0, 0, 0, 5));
        dueThrown("skip(0, -1)", ILLEGAL, () -> well.skip(0, -1));
        dueThrown("writeRow(0, 0)", FULL, () -> well.writeRow(0, 0));
        due("isTrue()", well.isTrue(), true);
        due("left", well.left(0), 2);
    }

    static void promise35OfEachSizeOfAGatherer() {
        for (int many = 0; many <= 256; many++) {
            due("with " + many, gathered(many, 256 - many, many / 2).isTrue(), true);
        }
    }
}
