import java.util.NoSuchElementException;

/** Rows of bytes, readers that go over them, and gatherers. */
public final class Bytewell {
    private static final int ROWS = 4;
    private static final int GATHERERS = 3;
    private static final int READERS = 3;
    private static final int MOST_BYTES = 256;
    private static final int LARGEST_PART = 64;
    private static final int TRIAL_PART = 3;
    private static final int NUMBER_BYTES = 4;
    private static final int LINE_END = 10;

    private final Row[] rows;
    private final Gatherer[] gatherers;
    private final Reader[] readers;

    // isTrue() uses these again at each call, since what a run makes is never given back.
    private final Reader trialReader;
    private final Gatherer trialGatherer;

    public Bytewell() {
        rows = new Row[ROWS];
        for (int i = 0; i < rows.length; i++) {
            rows[i] = new Row(0);
        }
        gatherers = new Gatherer[GATHERERS];
        for (int i = 0; i < gatherers.length; i++) {
            gatherers[i] = new Gatherer();
        }
        readers = new Reader[READERS];
        for (int i = 0; i < readers.length; i++) {
            readers[i] = new Reader();
        }
        trialReader = new Reader();
        trialGatherer = new Gatherer();
    }

    // Rows

    public int make(int row, int length) throws IndexOutOfBoundsException, IllegalArgumentException {
        Row former = rowAt(row);
        if (length < 0 || length > MOST_BYTES) {
            throw new IllegalArgumentException("a row has 0 to 256 bytes");
        }
        rows[row] = new Row(length);
        return former.count();
    }

    public int lend(int row, int to) throws IndexOutOfBoundsException {
        Row lent = rowAt(row);
        Row former = rowAt(to);
        rows[to] = lent;
        return former.count();
    }

    public int length(int row) throws IndexOutOfBoundsException {
        return rowAt(row).count();
    }

    public int get(int row, int index) throws IndexOutOfBoundsException {
        Row asked = rowAt(row);
        needPlaces(asked, index, 1);
        return asked.byteAt(index);
    }

    public int put(int row, int index, int number) throws IndexOutOfBoundsException {
        Row changed = rowAt(row);
        needPlaces(changed, index, 1);
        return changed.exchange(index, number);
    }

    public int fill(int row, int from, int many, int number, int step) throws IndexOutOfBoundsException {
        Row changed = rowAt(row);
        needPlaces(changed, from, many);
        int sum = 0;
        int next = number;
        for (int i = 0; i < many; i++) {
            sum += changed.exchange(from + i, next);
            next += step;
        }
        return sum;
    }

    public boolean isLike(int row, int other) throws IndexOutOfBoundsException {
        Row one = rowAt(row);
        Row two = rowAt(other);
        if (one.count() != two.count()) {
            return false;
        }
        for (int i = 0; i < one.count(); i++) {
            if (one.byteAt(i) != two.byteAt(i)) {
                return false;
            }
        }
        return true;
    }

    // Gatherers

    public int write(int gatherer, int number) throws IndexOutOfBoundsException, IllegalStateException {
        Gatherer gathering = gathererAt(gatherer);
        needRoom(gathering, 1);
        gathering.gather(number);
        return gathering.count();
    }

    public int writePart(int gatherer, int row, int from, int many)
            throws IndexOutOfBoundsException, IllegalStateException {
        Gatherer gathering = gathererAt(gatherer);
        Row written = rowAt(row);
        needPlaces(written, from, many);
        needRoom(gathering, many);
        gathering.gatherPart(written, from, many);
        return gathering.count();
    }

    public int writeRow(int gatherer, int row) throws IndexOutOfBoundsException, IllegalStateException {
        Gatherer gathering = gathererAt(gatherer);
        Row written = rowAt(row);
        needRoom(gathering, written.count());
        gathering.gatherPart(written, 0, written.count());
        return gathering.count();
    }

    public int writeNumber(int gatherer, int number) throws IndexOutOfBoundsException, IllegalStateException {
        Gatherer gathering = gathererAt(gatherer);
        needRoom(gathering, NUMBER_BYTES);
        for (int shift = 24; shift >= 0; shift -= 8) {
            gathering.gather(number >> shift);
        }
        return gathering.count();
    }

    public int size(int gatherer) throws IndexOutOfBoundsException {
        return gathererAt(gatherer).count();
    }

    public int empty(int gatherer) throws IndexOutOfBoundsException {
        Gatherer emptied = gathererAt(gatherer);
        int had = emptied.count();
        emptied.clear();
        return had;
    }

    public int take(int gatherer, int row) throws IndexOutOfBoundsException {
        Gatherer gathering = gathererAt(gatherer);
        needRow(row);
        Row taken = gathering.copy();
        rows[row] = taken;
        return taken.count();
    }

    // Readers

    public int open(int reader, int row) throws IndexOutOfBoundsException {
        Reader opened = readerAt(reader);
        opened.start(rowAt(row));
        return opened.remaining();
    }

    public boolean isOpen(int reader) throws IndexOutOfBoundsException {
        return readerAt(reader).isStarted();
    }

    public int read(int reader) throws IndexOutOfBoundsException, UnsupportedOperationException {
        Reader reading = readerAt(reader);
        needOpen(reading);
        if (reading.remaining() == 0) {
            return -1;
        }
        reading.tell(1);
        return reading.next();
    }

    public int readPart(int reader, int row, int from, int many)
            throws IndexOutOfBoundsException, UnsupportedOperationException {
        Reader reading = readerAt(reader);
        Row target = rowAt(row);
        needPlaces(target, from, many);
        needOpen(reading);
        if (reading.remaining() == 0) {
            return -1;
        }
        return reading.tell(reading.moveInto(target, from, many));
    }

    public int readFull(int reader, int row, int from, int many)
            throws IndexOutOfBoundsException, UnsupportedOperationException, IllegalArgumentException {
        Reader reading = readerAt(reader);
        Row target = rowAt(row);
        needPlaces(target, from, many);
        needOpen(reading);
        if (reading.isOver(target)) {
            throw new IllegalArgumentException("the row is what the reader reads");
        }
        return reading.tell(reading.moveInto(target, from, many));
    }

    public int readSome(int reader, int row, int many)
            throws IndexOutOfBoundsException, IllegalArgumentException, UnsupportedOperationException {
        Reader reading = readerAt(reader);
        needRow(row);
        needWanted(many);
        needOpen(reading);
        rows[row] = reading.nextRow(many);
        return reading.tell(rows[row].count());
    }

    public int readNumber(int reader)
            throws IndexOutOfBoundsException, UnsupportedOperationException, NoSuchElementException {
        Reader reading = readerAt(reader);
        needOpen(reading);
        if (reading.remaining() < NUMBER_BYTES) {
            throw new NoSuchElementException("fewer than four bytes are left");
        }
        int number = 0;
        for (int i = 0; i < NUMBER_BYTES; i++) {
            number = (number << 8) | reading.next();
        }
        reading.tell(NUMBER_BYTES);
        return number;
    }

    public int readLine(int reader, int row) throws IndexOutOfBoundsException, UnsupportedOperationException {
        Reader reading = readerAt(reader);
        needRow(row);
        needOpen(reading);
        if (reading.remaining() == 0) {
            return -1;
        }
        rows[row] = reading.nextRow(reading.distanceTo(LINE_END));
        int length = reading.tell(rows[row].count());
        // What is next after the line can only be its end.
        reading.tell(reading.pass(1));
        return length;
    }

    public int find(int reader, int number) throws IndexOutOfBoundsException, UnsupportedOperationException {
        Reader reading = readerAt(reader);
        needOpen(reading);
        int before = reading.distanceTo(number);
        if (before < reading.remaining()) {
            return reading.tell(reading.pass(before + 1));
        }
        return -1 - reading.tell(reading.pass(before));
    }

    public long skip(int reader, long many)
            throws IndexOutOfBoundsException, IllegalArgumentException, UnsupportedOperationException {
        Reader reading = readerAt(reader);
        needWanted(many);
        needOpen(reading);
        return reading.tell(reading.pass(many));
    }

    public int left(int reader) throws IndexOutOfBoundsException, UnsupportedOperationException {
        Reader reading = readerAt(reader);
        needOpen(reading);
        return reading.remaining();
    }

    public int mark(int reader, int limit) throws IndexOutOfBoundsException, UnsupportedOperationException {
        Reader reading = readerAt(reader);
        needOpen(reading);
        reading.setMark();
        return reading.remaining();
    }

    public int back(int reader) throws IndexOutOfBoundsException, UnsupportedOperationException {
        Reader reading = readerAt(reader);
        needOpen(reading);
        reading.goBack();
        return reading.remaining();
    }

    public int pour(int reader, int gatherer)
            throws IndexOutOfBoundsException, UnsupportedOperationException, IllegalStateException {
        Reader reading = readerAt(reader);
        Gatherer gathering = gathererAt(gatherer);
        needOpen(reading);
        needRoom(gathering, reading.remaining());
        return reading.tell(reading.pourInto(gathering, reading.remaining()));
    }

    public int pourParts(int reader, int gatherer, int part)
            throws IndexOutOfBoundsException, IllegalArgumentException,
            UnsupportedOperationException, IllegalStateException {
        Reader reading = readerAt(reader);
        Gatherer gathering = gathererAt(gatherer);
        if (part < 1 || part > LARGEST_PART) {
            throw new IllegalArgumentException("a part has 1 to 64 bytes");
        }
        needOpen(reading);
        needRoom(gathering, reading.remaining());
        return pourByParts(reading, gathering, part);
    }

    public int alike(int reader, int other)
            throws IndexOutOfBoundsException, IllegalArgumentException, UnsupportedOperationException {
        Reader one = readerAt(reader);
        Reader two = readerAt(other);
        if (reader == other) {
            throw new IllegalArgumentException("a reader is not compared with itself");
        }
        needOpen(one);
        needOpen(two);
        int most = Math.min(one.remaining(), two.remaining());
        int many = 0;
        while (many < most && one.peek() == two.peek()) {
            one.pass(1);
            two.pass(1);
            many++;
        }
        one.tell(many);
        two.tell(many);
        one.setMark();
        two.setMark();
        return many;
    }

    // Figures

    public float leftShare(int reader)
            throws IndexOutOfBoundsException, UnsupportedOperationException, ArithmeticException {
        Reader reading = readerAt(reader);
        needOpen(reading);
        int whole = reading.whole();
        if (whole == 0) {
            throw new ArithmeticException("an empty array has no share");
        }
        return (float) reading.remaining() / (float) whole;
    }

    public double meanSize() throws ArithmeticException {
        int sum = 0;
        int many = 0;
        for (int i = 0; i < gatherers.length; i++) {
            if (gatherers[i].count() > 0) {
                sum += gatherers[i].count();
                many++;
            }
        }
        if (many == 0) {
            throw new ArithmeticException("no gatherer has bytes");
        }
        return (double) sum / (double) many;
    }

    public long checksum() {
        long sum = 7;
        for (int i = 0; i < rows.length; i++) {
            sum = 31 * sum + rows[i].count();
            sum = rows[i].addedTo(sum, rows[i].count());
        }
        for (int i = 0; i < gatherers.length; i++) {
            sum = 31 * sum + gatherers[i].count();
            sum = gatherers[i].addedTo(sum);
        }
        for (int i = 0; i < readers.length; i++) {
            sum = 31 * sum + (readers[i].isStarted() ? readers[i].remaining() : -1);
        }
        return sum;
    }

    public boolean isTrue() {
        for (int i = 0; i < readers.length; i++) {
            if (readers[i].isStarted() && !readers[i].hasToldAll()) {
                return false;
            }
        }
        for (int i = 0; i < gatherers.length; i++) {
            if (!isReadBack(gatherers[i]) || !isPouredBack(gatherers[i])) {
                return false;
            }
        }
        return true;
    }

    private boolean isReadBack(Gatherer gatherer) {
        trialReader.start(gatherer.copy());
        if (trialReader.remaining() != gatherer.count()) {
            return false;
        }
        for (int i = 0; i < gatherer.count(); i++) {
            if (trialReader.next() != gatherer.numberAt(i)) {
                return false;
            }
        }
        return trialReader.remaining() == 0;
    }

    private boolean isPouredBack(Gatherer gatherer) {
        trialReader.goBack();
        trialGatherer.clear();
        pourByParts(trialReader, trialGatherer, TRIAL_PART);
        if (trialGatherer.count() != gatherer.count()) {
            return false;
        }
        for (int i = 0; i < gatherer.count(); i++) {
            if (trialGatherer.numberAt(i) != gatherer.numberAt(i)) {
                return false;
            }
        }
        return true;
    }

    private static int pourByParts(Reader reading, Gatherer gathering, int part) {
        int parts = 0;
        while (parts < MOST_BYTES && reading.remaining() > 0) {
            reading.tell(reading.pourInto(gathering, part));
            parts++;
        }
        return parts;
    }

    // What a call needs of its arguments, and throws without it

    private void needRow(int row) throws IndexOutOfBoundsException {
        if (row < 0 || row >= rows.length) {
            throw new IndexOutOfBoundsException("there is no such row");
        }
    }

    private Row rowAt(int row) throws IndexOutOfBoundsException {
        needRow(row);
        return rows[row];
    }

    private Gatherer gathererAt(int gatherer) throws IndexOutOfBoundsException {
        if (gatherer < 0 || gatherer >= gatherers.length) {
            throw new IndexOutOfBoundsException("there is no such gatherer");
        }
        return gatherers[gatherer];
    }

    private Reader readerAt(int reader) throws IndexOutOfBoundsException {
        if (reader < 0 || reader >= readers.length) {
            throw new IndexOutOfBoundsException("there is no such reader");
        }
        return readers[reader];
    }

    private static void needPlaces(Row row, int from, int many) throws IndexOutOfBoundsException {
        if (!row.hasPart(from, many)) {
            throw new IndexOutOfBoundsException("the row has not all of these places");
        }
    }

    private static void needRoom(Gatherer gatherer, int many) throws IllegalStateException {
        if (many > gatherer.room()) {
            throw new IllegalStateException("a gatherer has at most 256 bytes");
        }
    }

    private static void needWanted(long many) throws IllegalArgumentException {
        if (many < 0) {
            throw new IllegalArgumentException("fewer than 0 are wanted");
        }
    }

    private static void needOpen(Reader reader) throws UnsupportedOperationException {
        if (!reader.isStarted()) {
            throw new UnsupportedOperationException("the reader is not open");
        }
    }

    /** The array that rows lend and readers keep: the same one where it is the same object. */
    private static final class Row {
        private final byte[] bytes;

        Row(int length) {
            bytes = new byte[Math.max(length, 0)];
        }

        int count() {
            return bytes.length;
        }

        boolean has(int place) {
            return place >= 0 && place < bytes.length;
        }

        int byteAt(int place) {
            return has(place) ? bytes[place] : 0;
        }

        int exchange(int place, int number) {
            int former = byteAt(place);
            if (has(place)) {
                bytes[place] = (byte) number;
            }
            return former;
        }

        boolean hasPart(int from, int many) {
            // The sum of both could go round; what is behind from can not.
            return from >= 0 && many >= 0 && from <= bytes.length && many <= bytes.length - from;
        }

        void copyTo(Row target, int to, int from, int many) {
            if (hasPart(from, many) && target.hasPart(to, many)) {
                System.arraycopy(bytes, from, target.bytes, to, many);
            }
        }

        long addedTo(long sum, int many) {
            long added = sum;
            for (int i = 0; i < many; i++) {
                added = 31 * added + byteAt(i);
            }
            return added;
        }
    }

    private static final class Gatherer {
        private final Row kept;
        private int count;

        Gatherer() {
            kept = new Row(MOST_BYTES);
        }

        int count() {
            return count;
        }

        int room() {
            return kept.count() - count;
        }

        int numberAt(int place) {
            return kept.byteAt(place) & 255;
        }

        void gather(int number) {
            kept.exchange(count, number);
            count++;
        }

        void gatherPart(Row row, int from, int many) {
            row.copyTo(kept, count, from, many);
            count += many;
        }

        void clear() {
            count = 0;
        }

        Row copy() {
            Row copied = new Row(count);
            kept.copyTo(copied, 0, 0, count);
            return copied;
        }

        long addedTo(long sum) {
            return kept.addedTo(sum, count);
        }
    }

    private static final class Reader {
        private Row row;
        private boolean started;
        private int place;
        private int markedPlace;

        // Counted from the calls' answers alone, so that isTrue() has something to hold against the place.
        private int told;
        private int markedTold;

        Reader() {
            row = new Row(0);
        }

        void start(Row opened) {
            row = opened;
            started = true;
            place = 0;
            told = 0;
            setMark();
        }

        boolean isStarted() {
            return started;
        }

        boolean isOver(Row other) {
            return row == other;
        }

        int whole() {
            return row.count();
        }

        int remaining() {
            return row.count() - place;
        }

        int tell(int many) {
            told += many;
            return many;
        }

        boolean hasToldAll() {
            return told + remaining() == row.count();
        }

        void setMark() {
            markedPlace = place;
            markedTold = told;
        }

        void goBack() {
            place = markedPlace;
            told = markedTold;
        }

        int peek() {
            return row.byteAt(place) & 255;
        }

        int next() {
            int number = peek();
            pass(1);
            return number;
        }

        int asManyAs(long wanted) {
            return (int) Math.min(wanted, (long) (row.count() - place));
        }

        int pass(long wanted) {
            int many = asManyAs(wanted);
            place += many;
            return many;
        }

        /** How many bytes are left before the next such number, all if there is none. */
        int distanceTo(int number) {
            int ahead = remaining();
            for (int i = 0; i < ahead; i++) {
                if ((row.byteAt(place + i) & 255) == number) {
                    return i;
                }
            }
            return ahead;
        }

        int moveInto(Row target, int to, int wanted) {
            int many = asManyAs(wanted);
            row.copyTo(target, to, place, many);
            return pass(many);
        }

        Row nextRow(int wanted) {
            Row next = new Row(asManyAs(wanted));
            moveInto(next, 0, next.count());
            return next;
        }

        int pourInto(Gatherer gatherer, int wanted) {
            int many = asManyAs(wanted);
            gatherer.gatherPart(row, place, many);
            return pass(many);
        }
    }
}
