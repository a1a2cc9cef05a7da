/** A Bytewell that counts its calls: what it answers after the 512th is free, so no test may ask for that. */
final class Well {
    static final int MOST_CALLS = 512;

    private final Bytewell well = new Bytewell();
    private int calls;

    private Bytewell called() {
        calls++;
        if (calls > MOST_CALLS) {
            throw new AssertionError("a test asks for more than 512 calls of one object");
        }
        return well;
    }

    int callsLeft() {
        return MOST_CALLS - calls;
    }

    int make(int row, int length) {
        return called().make(row, length);
    }

    int lend(int row, int to) {
        return called().lend(row, to);
    }

    int length(int row) {
        return called().length(row);
    }

    int get(int row, int index) {
        return called().get(row, index);
    }

    int put(int row, int index, int number) {
        return called().put(row, index, number);
    }

    int fill(int row, int from, int many, int number, int step) {
        return called().fill(row, from, many, number, step);
    }

    boolean isLike(int row, int other) {
        return called().isLike(row, other);
    }

    int write(int gatherer, int number) {
        return called().write(gatherer, number);
    }

    int writePart(int gatherer, int row, int from, int many) {
        return called().writePart(gatherer, row, from, many);
    }

    int writeRow(int gatherer, int row) {
        return called().writeRow(gatherer, row);
    }

    int writeNumber(int gatherer, int number) {
        return called().writeNumber(gatherer, number);
    }

    int size(int gatherer) {
        return called().size(gatherer);
    }

    int empty(int gatherer) {
        return called().empty(gatherer);
    }

    int take(int gatherer, int row) {
        return called().take(gatherer, row);
    }

    int open(int reader, int row) {
        return called().open(reader, row);
    }

    boolean isOpen(int reader) {
        return called().isOpen(reader);
    }

    int read(int reader) {
        return called().read(reader);
    }

    int readPart(int reader, int row, int from, int many) {
        return called().readPart(reader, row, from, many);
    }

    int readFull(int reader, int row, int from, int many) {
        return called().readFull(reader, row, from, many);
    }

    int readSome(int reader, int row, int many) {
        return called().readSome(reader, row, many);
    }

    int readNumber(int reader) {
        return called().readNumber(reader);
    }

    int readLine(int reader, int row) {
        return called().readLine(reader, row);
    }

    int find(int reader, int number) {
        return called().find(reader, number);
    }

    long skip(int reader, long many) {
        return called().skip(reader, many);
    }

    int left(int reader) {
        return called().left(reader);
    }

    int mark(int reader, int limit) {
        return called().mark(reader, limit);
    }

    int back(int reader) {
        return called().back(reader);
    }

    int pour(int reader, int gatherer) {
        return called().pour(reader, gatherer);
    }

    int pourParts(int reader, int gatherer, int part) {
        return called().pourParts(reader, gatherer, part);
    }

    int alike(int reader, int other) {
        return called().alike(reader, other);
    }

    float leftShare(int reader) {
        return called().leftShare(reader);
    }

    double meanSize() {
        return called().meanSize();
    }

    long checksum() {
        return called().checksum();
    }

    boolean isTrue() {
        return called().isTrue();
    }
}
