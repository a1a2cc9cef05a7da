/** The boundary cases that the document names under "What it is" and "Terms", a test for each sentence. */
public final class EdgesOfTermsTest extends Edges {
    private EdgesOfTermsTest() {
    }

    public static void main(String[] args) {
        Check.runAll(EdgesOfTermsTest.class);
    }

    // "An object is used for at most 512 calls after it has been made"

    static void terms01The512thCallIsAnsweredOfWhatTheDearestCallMakes() {
        Check.Use[] calls = {
            well -> well.isTrue(),
            well -> well.make(0, 256),
            well -> well.take(1, 0),
            well -> well.open(0, 2),
            well -> well.readSome(1, 0, 256),
            well -> well.lend(2, 0),
            well -> well.mark(1, 1),
            well -> well.back(1),
            well -> well.checksum(),
        };
        for (int i = 0; i < calls.length; i++) {
            Well well = new Well();
            full(well, 2);
            well.writeRow(1, 2);
            well.open(1, 2);
            while (well.callsLeft() > 2) {
                calls[i].of(well);
            }
            due("after call " + i + " again and again, the full gatherer", well.size(1), 256);
            due("its isTrue()", well.isTrue(), true);
        }
    }

    static void terms01The512thCallIsAnsweredOfWhatIsWrittenAndEmptied() {
        Well well = new Well();
        full(well, 0);
        while (well.callsLeft() > 4) {
            due("writeRow(0, 0)", well.writeRow(0, 0), 256);
            due("empty(0)", well.empty(0), 256);
        }
        due("writeRow(0, 0)", well.writeRow(0, 0), 256);
        due("take(0, 1)", well.take(0, 1), 256);
        due("isLike(0, 1)", well.isLike(0, 1), true);
        due("isTrue()", well.isTrue(), true);
    }

    static void terms01The512thCallIsAnsweredOfRefusedCalls() {
        Well well = new Well();
        while (well.callsLeft() > 1) {
            dueThrown("read(0)", SHUT, () -> well.read(0));
        }
        due("checksum()", well.checksum(), new Well().checksum());
    }

    // "A reader is at each moment a place in the very array that it was given, not in a copy"

    static void terms02WhatIsPutThereLaterIsWhatIsRead() {
        Well well = five();
        well.lend(0, 1);
        well.read(0);
        well.put(0, 0, 90);
        well.put(0, 1, 91);
        well.put(1, 4, 95);
        dueAhead("by put", well, 0, 91, 3, 4, 95);
        well.back(0);
        well.fill(1, 0, 5, 60, 1);
        dueAhead("by fill", well, 0, 60, 61, 62, 63, 64);
        well.back(0);
        well.open(1, 2);
        well.make(3, 2);
        well.fill(3, 0, 2, 7, 0);
        well.open(2, 3);
        well.readPart(2, 1, 3, 2);
        dueAhead("by readPart", well, 0, 60, 61, 62, 7, 7);
        well.back(0);
        well.back(2);
        well.readFull(2, 0, 0, 1);
        dueAhead("by readFull", well, 0, 7, 61, 62, 7, 7);
    }

    static void terms02WhatIsPutThereRightAheadIsReadAfterEachWayOfReading() {
        Check.Use[] ways = {
            well -> well.read(0),
            well -> well.readPart(0, 1, 0, 1),
            well -> well.readFull(0, 1, 0, 1),
            well -> well.readSome(0, 1, 1),
            well -> well.readLine(0, 1),
            well -> well.find(0, 10),
            well -> well.skip(0, 1),
            well -> well.alike(0, 1),
            well -> well.open(0, 0),
            well -> well.mark(0, 0),
            well -> well.back(0),
            well -> well.left(0),
            well -> well.isTrue(),
        };
        int[] passed = {1, 1, 1, 1, 1, 1, 1, 1, 0, 0, 0, 0, 0};
        for (int i = 0; i < ways.length; i++) {
            Well well = new Well();
            set(well, 0, 10, 20, 30);
            set(well, 1, 10, 99);
            well.open(0, 0);
            well.open(1, 1);
            ways[i].of(well);
            well.put(0, passed[i], -7);
            due("way " + i + ", the next", well.read(0), 249);
            due("way " + i + ", left", well.left(0), 2 - passed[i]);
        }
    }

    static void terms02WhatIsPutThereAfterTheEndIsReadAfterGoingBack() {
        Well well = five();
        well.skip(0, 4);
        well.mark(0, 0);
        well.read(0);
        well.put(0, 4, -1);
        due("at the end", well.read(0), -1);
        well.back(0);
        due("at the mark", well.read(0), 255);
    }

    static void terms02OtherRowsWithTheSameBytesAreNotIt() {
        Well well = five();
        set(well, 1, 1, 2, 3, 4, 5);
        well.fill(1, 0, 5, 0, 0);
        dueAhead("a like row was filled", well, 0, 1, 2, 3, 4, 5);
    }

    // "Whichever way its bytes are taken ..., each place ... is passed once, in order"

    static void terms03WhicheverWayItsBytesAreTaken() {
        Check.Use[] ways = {
            well -> well.read(2),
            well -> well.readPart(2, 3, 0, 7),
            well -> well.readFull(2, 3, 1, 9),
            well -> well.readSome(2, 1, 5),
            well -> well.readNumber(2),
            well -> well.skip(2, 3),
            well -> well.find(2, (128 + 256 - well.left(2) + 4) & 255),
            well -> well.alike(2, 1),
        };
        int[] passed = {1, 7, 9, 5, 4, 3, 5, 0};
        for (int i = 0; i < ways.length; i++) {
            for (int j = 0; j < ways.length; j++) {
                Well well = whole();
                well.make(3, 10);
                well.open(1, 3);
                int place = 0;
                for (int turn = 0; turn < 8; turn++) {
                    int way = turn % 2 == 0 ? i : j;
                    ways[way].of(well);
                    place += passed[way];
                    due("ways " + i + " and " + j + ", left", well.left(2), 256 - place);
                }
                due("ways " + i + " and " + j + ", the next", well.read(2), (128 + place) & 255);
                due("ways " + i + " and " + j + ", isTrue", well.isTrue(), true);
            }
        }
    }

    static void terms03EachIsReadAsItIsWhenItIsPassed() {
        Well well = five();
        due("the first", well.read(0), 1);
        well.fill(0, 0, 5, 10, 1);
        well.make(1, 2);
        well.readPart(0, 1, 0, 2);
        dueRow("the second and the third", well, 1, 11, 12);
        well.fill(0, 0, 5, 20, 1);
        well.pour(0, 0);
        dueGathered("the fourth and the fifth", well, 0, 1, 23, 24);
    }

    // "what is ahead of its place and what is left are together the array's length"

    static void terms04PassedAndLeftAreTheLength() {
        for (int length = 0; length <= 256; length += 32) {
            for (int passed = 0; passed <= length; passed += 16) {
                Well well = new Well();
                openWithLeft(well, 0, 0, length, length - passed);
                due("left", well.left(0), length - passed);
                due("poured", well.pour(0, 0), length - passed);
                due("isTrue", well.isTrue(), true);
                due("from its begin", well.back(0), length);
            }
        }
    }

    // "going back brings it to where it was marked last, or to its begin if it never was"

    static void terms05GoingBackAfterEachWayOfReading() {
        Check.Use[] ways = {
            well -> well.read(0),
            well -> well.readPart(0, 0, 0, 5),
            well -> well.readFull(0, 3, 0, 3),
            well -> well.readSome(0, 1, MAX),
            well -> well.readLine(0, 1),
            well -> well.find(0, 256),
            well -> well.skip(0, Long.MAX_VALUE),
            well -> well.pour(0, 0),
            well -> well.pourParts(0, 0, 2),
        };
        for (Check.Use way : ways) {
            Well well = five();
            well.make(3, 3);
            way.of(well);
            due("to its begin", well.back(0), 5);
            well.read(0);
            well.mark(0, 0);
            way.of(well);
            due("to its mark", well.back(0), 4);
            way.of(well);
            due("to its mark again", well.back(0), 4);
        }
    }

    // Going back brings a reader where it was marked: a call that asks marks nothing, nor changes anything else

    static void terms05CallsThatAskChangeNothing() {
        Check.Use[] asking = {
            well -> well.length(0),
            well -> well.get(0, 4),
            well -> well.isLike(0, 2),
            well -> well.isLike(0, 1),
            well -> well.size(0),
            well -> well.isOpen(0),
            well -> well.isOpen(2),
            well -> well.left(0),
            well -> well.leftShare(0),
            well -> well.meanSize(),
            well -> well.checksum(),
            well -> well.isTrue(),
        };
        dueAsBusy("at first", busy());
        for (int i = 0; i < asking.length; i++) {
            Well well = busy();
            asking[i].of(well);
            asking[i].of(well);
            dueAsBusy("after call " + i, well);
            changesNothing("call " + i, Edges::crowded, asking[i].of(crowded()), asking[i]);
        }
    }

    // "A gatherer is at each moment the row of all that was written since it began or was emptied, in order"

    static void terms06AGathererHasAllInOrderHoweverItWasWritten() {
        Well well = five();
        well.write(0, 256 + 9);
        well.writePart(0, 0, 3, 2);
        well.writeNumber(0, 0x01FF7F80);
        well.writeRow(0, 0);
        well.skip(0, 3);
        well.pour(0, 0);
        well.back(0);
        well.pourParts(0, 0, 4);
        dueGathered("all of it", well, 0, 3, 9, 4, 5, 1, -1, 127, -128, 1, 2, 3, 4, 5, 4, 5, 1, 2, 3, 4, 5);
        well.empty(0);
        well.write(0, -9);
        dueGathered("since it was emptied", well, 0, 3, -9);
    }

    // "what is taken of it is a row of its own"

    static void terms07WhatIsTakenIsARowOfItsOwn() {
        Well well = five();
        well.writeRow(0, 0);
        well.take(0, 1);
        well.take(0, 2);
        well.open(1, 1);
        well.writeRow(0, 0);
        well.empty(0);
        well.writeNumber(0, -1);
        dueRow("a row after it was emptied and written", well, 1, 1, 2, 3, 4, 5);
        dueAhead("a reader after it was emptied and written", well, 1, 1, 2, 3, 4, 5);
        well.fill(1, 0, 5, 0, 0);
        dueRow("another one that was taken", well, 2, 1, 2, 3, 4, 5);
        dueGathered("it", well, 0, 3, -1, -1, -1, -1);
    }

    // "what a reader has left comes out the same, poured at once or in parts, and reading that gives it back"

    static void terms08PouredAtOnceOrInPartsAndReadAgain() {
        for (int left = 0; left <= 256; left += 8) {
            for (int part = 1; part <= 64; part *= 4) {
                Well well = whole();
                well.skip(2, 256 - left);
                well.readSome(2, 3, 256);
                well.open(0, 3);
                well.pour(0, 0);
                well.open(0, 3);
                well.pourParts(0, 1, part);
                well.take(0, 0);
                well.take(1, 1);
                due(left + " poured at once", well.isLike(0, 3), true);
                due(left + " poured in parts of " + part, well.isLike(1, 3), true);
                well.open(0, 0);
                well.open(1, 1);
                well.open(2, 3);
                due("read again", well.alike(0, 2), left);
                well.open(2, 3);
                due("read again", well.alike(1, 2), left);
            }
        }
    }

    // "each of which is an array of 0 to 256 bytes, -128 to 127, empty at first"

    static void terms09NoCallMakesARowLongerThan256() {
        Well well = whole();
        due("readSome", well.readSome(2, 0, MAX), 256);
        well.back(2);
        well.find(2, 10);
        due("readLine", well.readLine(2, 0), 117);
        well.writeRow(0, 2);
        due("take", well.take(0, 1), 256);
        dueThrown("make", ILLEGAL, () -> well.make(1, 257));
        due("lend", well.lend(1, 0), 117);
        due("length", well.length(0), 256);
    }

    // "To make a row, to take one of a gatherer or to read some into one gives it another, new array"

    static void terms10MakingTakingAndReadingSomeGiveANewArrayWritingIntoItDoesNot() {
        Check.Use[] making = {
            well -> well.make(0, 5),
            well -> well.take(0, 0),
            well -> well.readSome(1, 0, 5),
            well -> well.readLine(1, 0),
        };
        Check.Use[] putting = {
            well -> well.put(0, 0, 9),
            well -> well.fill(0, 0, 5, 9, 9),
            well -> well.readPart(1, 0, 0, 5),
            well -> well.readFull(1, 0, 0, 5),
            well -> well.writeRow(0, 0),
            well -> well.open(1, 0),
            well -> well.lend(0, 3),
        };
        for (int i = 0; i < making.length + putting.length; i++) {
            Well well = five();
            well.writeRow(0, 0);
            well.take(0, 2);
            well.open(1, 2);
            well.lend(0, 1);
            boolean made = i < making.length;
            (made ? making[i] : putting[i - making.length]).of(well);
            due("call " + i + ", the row is as long", well.length(0), 5);
            due("call " + i + ", the same array", areSameArray(well, 0, 1), !made);
            due("call " + i + ", the reader's array", Check.outcome(() -> well.readFull(0, 1, 0, 0)),
                "throws.IllegalArgumentException");
        }
    }

    static void terms10EachEmptyRowIsAnotherArray() {
        Check.Use[] making = {
            well -> well.make(2, 0),
            well -> well.take(0, 2),
            well -> well.readSome(0, 2, 0),
            well -> well.readLine(0, 2),
        };
        for (int i = 0; i < making.length; i++) {
            for (int j = 0; j < making.length; j++) {
                Well well = new Well();
                set(well, 0, 10, 10);
                well.open(0, 0);
                making[i].of(well);
                well.lend(2, 3);
                making[j].of(well);
                due("calls " + i + " and " + j + ", lengths", well.length(2) + well.length(3), 0);
                due("calls " + i + " and " + j + ", the same array", areSameArray(well, 2, 3), false);
                due("call " + j + " and a first one, the same array", areSameArray(well, 2, 1), false);
            }
        }
    }

    static void terms10WhatReadsTheFormerOneGoesOnWithThat() {
        Check.Use[] making = {
            well -> well.make(0, 5),
            well -> well.take(1, 0),
            well -> well.readSome(0, 0, 0),
            well -> well.lend(3, 0),
        };
        for (int i = 0; i < making.length; i++) {
            Well well = five();
            well.lend(0, 1);
            well.read(0);
            making[i].of(well);
            well.fill(0, 0, well.length(0), 99, 0);
            well.put(1, 4, -1);
            dueAhead("call " + i, well, 0, 2, 3, 4, 255);
            due("call " + i + ", back", well.back(0), 5);
        }
    }

    // "There are the readers 0 to 2, ... and the gatherers 0 to 2, empty at first, of at most 256 bytes each"

    static void terms11ThereAreNoOthers() {
        Check.Use[][] calls = {
            {well -> well.size(0), well -> well.size(2), well -> well.size(-1), well -> well.size(3)},
            {well -> well.isOpen(0), well -> well.isOpen(2), well -> well.isOpen(-1), well -> well.isOpen(3)},
            {well -> well.length(0), well -> well.length(3), well -> well.length(-1), well -> well.length(4)},
        };
        Object[] want = {0, false, 0};
        for (int i = 0; i < calls.length; i++) {
            changesNothing("kind " + i + ", the first", Well::new, want[i], calls[i][0]);
            changesNothing("kind " + i + ", the last", Well::new, want[i], calls[i][1]);
            refused("kind " + i + ", before the first", NO_SUCH, calls[i][2]);
            refused("kind " + i + ", behind the last", NO_SUCH, calls[i][3]);
        }
    }

    static void terms11AllThreeGatherersCanBeFull() {
        Well well = whole();
        for (int i = 0; i < 3; i++) {
            due("writeRow(" + i + ", 2)", well.writeRow(i, 2), 256);
        }
        for (int i = 0; i < 3; i++) {
            well.take(i, 0);
            due("gatherer " + i, well.isLike(0, 2), true);
        }
    }

    // "What readPart() reads into a row, it reads as if it were put beside first, also if that is its own array"

    static void terms12ReadPartIntoWhatAnotherReaderHasAhead() {
        Well well = five();
        well.open(1, 0);
        well.read(0);
        due("readPart(0, 0, 2, 3)", well.readPart(0, 0, 2, 3), 3);
        dueRow("the row", well, 0, 1, 2, 2, 3, 4);
        dueAhead("the other reader", well, 1, 1, 2, 2, 3, 4);
        dueAhead("it", well, 0, 4);
    }
}
