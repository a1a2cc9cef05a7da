import java.io.ByteArrayInputStream;
import java.io.ByteArrayOutputStream;
import java.io.IOException;
import java.util.Arrays;
import java.util.NoSuchElementException;
import java.util.Objects;

/** Long runs of calls, each answered by a Bytewell and by the classes of java.io that it is told after. */
public final class JavaIoTest {
    private static final int RUNS = 600;
    // The last call of a well is for the checksum.
    private static final int CALLS = Well.MOST_CALLS - 1;
    private static final int KINDS = 34;

    private long seed;

    private JavaIoTest(long seed) {
        this.seed = seed;
    }

    public static void main(String[] args) {
        for (int run = 0; run < RUNS; run++) {
            new JavaIoTest(run).run(run);
        }
        Check.finish();
    }

    /** The same numbers in each run of the test, so that what fails once fails again. */
    private int below(int bound) {
        seed = seed * 6364136223846793005L + 1442695040888963407L;
        return (int) ((seed >>> 33) % bound);
    }

    private int index(int bound) {
        return below(40) == 0 ? below(2) * (bound + 1) - 1 : below(bound);
    }

    private int amount() {
        int kind = below(40);
        if (kind == 0) {
            return new int[] {-1, 257, Integer.MIN_VALUE, Integer.MAX_VALUE}[below(4)];
        }
        return kind < 30 ? below(9) : below(257);
    }

    private int number() {
        return below(3) == 0 ? below(1 << 30) * (below(2) * 2 - 1) * 2 : below(300) - 20;
    }

    private void run(int run) {
        Well well = new Well();
        Model model = new Model();
        for (int call = 0; call < CALLS; call++) {
            int kind = below(KINDS);
            int[] told = arguments(kind);
            Object got = Check.outcome(() -> askWell(well, kind, told));
            Object want = Check.outcome(() -> model.ask(kind, told));
            // A run ends with its first wrong answer: those behind it only follow from it.
            if (!Objects.equals(got, want)) {
                Check.due("run " + run + " call " + call + " kind " + kind + Arrays.toString(told), got, want);
                return;
            }
        }
        Check.due("run " + run + " checksum", well.checksum(), model.checksum());
    }

    /** Five numbers: which reader, gatherer or row, then row or gatherer, first place, how many, number. */
    private int[] arguments(int kind) {
        boolean row = kind < 7;
        int first = row ? index(4) : index(3);
        int second = kind == 27 || kind == 28 || kind == 29 ? index(3) : index(4);
        return new int[] {first, second, amount(), amount(), number()};
    }

    private static Object askWell(Well well, int kind, int[] a) {
        switch (kind) {
            case 0: return well.make(a[0], a[2]);
            case 1: return well.lend(a[0], a[1]);
            case 2: return well.length(a[0]);
            case 3: return well.get(a[0], a[2]);
            case 4: return well.put(a[0], a[2], a[4]);
            case 5: return well.fill(a[0], a[2], a[3], a[4], a[4] + 7);
            case 6: return well.isLike(a[0], a[1]);
            case 7: return well.write(a[0], a[4]);
            case 8: return well.writePart(a[0], a[1], a[2], a[3]);
            case 9: return well.writeRow(a[0], a[1]);
            case 10: return well.writeNumber(a[0], a[4]);
            case 11: return well.size(a[0]);
            case 12: return well.empty(a[0]);
            case 13: return well.take(a[0], a[1]);
            case 14: return well.open(a[0], a[1]);
            case 15: return well.isOpen(a[0]);
            case 16: return well.read(a[0]);
            case 17: return well.readPart(a[0], a[1], a[2], a[3]);
            case 18: return well.readFull(a[0], a[1], a[2], a[3]);
            case 19: return well.readSome(a[0], a[1], a[3]);
            case 20: return well.readNumber(a[0]);
            case 21: return well.readLine(a[0], a[1]);
            case 22: return well.find(a[0], a[4]);
            case 23: return well.skip(a[0], (long) a[3] * a[2]);
            case 24: return well.left(a[0]);
            case 25: return well.mark(a[0], a[4]);
            case 26: return well.back(a[0]);
            case 27: return well.pour(a[0], a[1]);
            case 28: return well.pourParts(a[0], a[1], a[3]);
            case 29: return well.alike(a[0], a[1]);
            case 30: return well.leftShare(a[0]);
            case 31: return well.meanSize();
            case 32: return well.checksum();
            default: return well.isTrue();
        }
    }

    /** The stream of java.io, with its place and its array shown. */
    private static final class In extends ByteArrayInputStream {
        In(byte[] bytes) {
            super(bytes);
        }

        byte[] array() {
            return buf;
        }

        int place() {
            return pos;
        }
    }

    private static final class Model {
        private final byte[][] rows = {new byte[0], new byte[0], new byte[0], new byte[0]};
        private final In[] ins = new In[3];
        private final ByteArrayOutputStream[] outs = {
            new ByteArrayOutputStream(), new ByteArrayOutputStream(), new ByteArrayOutputStream(),
        };

        Object ask(int kind, int[] a) {
            if (kind < 7) {
                return askRows(kind, a);
            }
            if (kind < 14) {
                return askGatherers(kind, a);
            }
            if (kind < 16) {
                return askOpening(kind, a);
            }
            return kind < 27 ? askReaders(kind, a) : askLast(kind, a);
        }

        private Object askRows(int kind, int[] a) {
            byte[] row = rows[inside(a[0], 4)];
            switch (kind) {
                case 0:
                    legal(a[2] >= 0 && a[2] <= 256);
                    rows[a[0]] = new byte[a[2]];
                    return row.length;
                case 1:
                    int former = rows[inside(a[1], 4)].length;
                    rows[a[1]] = row;
                    return former;
                case 2:
                    return row.length;
                case 3:
                    return (int) row[inside(a[2], row.length)];
                case 4:
                    int was = row[inside(a[2], row.length)];
                    row[a[2]] = (byte) a[4];
                    return was;
                case 5:
                    Objects.checkFromIndexSize(a[2], a[3], row.length);
                    int sum = 0;
                    for (int i = 0; i < a[3]; i++) {
                        sum += row[a[2] + i];
                        row[a[2] + i] = (byte) (a[4] + i * (a[4] + 7));
                    }
                    return sum;
                default:
                    return Arrays.equals(row, rows[inside(a[1], 4)]);
            }
        }

        private Object askGatherers(int kind, int[] a) {
            ByteArrayOutputStream out = outs[inside(a[0], 3)];
            int size = out.size();
            switch (kind) {
                case 7:
                    room(out, 1);
                    out.write(a[4]);
                    return out.size();
                case 8:
                    byte[] row = rows[inside(a[1], 4)];
                    Objects.checkFromIndexSize(a[2], a[3], row.length);
                    room(out, a[3]);
                    out.write(row, a[2], a[3]);
                    return out.size();
                case 9:
                    room(out, rows[inside(a[1], 4)].length);
                    out.writeBytes(rows[a[1]]);
                    return out.size();
                case 10:
                    room(out, 4);
                    for (int i = 3; i >= 0; i--) {
                        out.write(a[4] >>> (8 * i));
                    }
                    return out.size();
                case 11:
                    return size;
                case 12:
                    out.reset();
                    return size;
                default:
                    rows[inside(a[1], 4)] = out.toByteArray();
                    return size;
            }
        }

        private Object askOpening(int kind, int[] a) {
            inside(a[0], 3);
            if (kind == 15) {
                return ins[a[0]] != null;
            }
            ins[a[0]] = new In(rows[inside(a[1], 4)]);
            return ins[a[0]].available();
        }

        private Object askReaders(int kind, int[] a) {
            In in = ins[inside(a[0], 3)];
            if (kind == 17 || kind == 18) {
                Objects.checkFromIndexSize(a[2], a[3], rows[inside(a[1], 4)].length);
            }
            if (kind == 19 || kind == 21) {
                inside(a[1], 4);
            }
            legal(kind != 19 || a[3] >= 0);
            legal(kind != 23 || (long) a[3] * a[2] >= 0);
            open(in);
            switch (kind) {
                case 16:
                    return in.read();
                case 17:
                    return in.read(rows[a[1]], a[2], a[3]);
                case 18:
                    legal(rows[a[1]] != in.array());
                    return in.readNBytes(rows[a[1]], a[2], a[3]);
                case 19:
                    rows[a[1]] = some(in, a[3]);
                    return rows[a[1]].length;
                case 20:
                    return number(in);
                case 21:
                    return line(in, a[1]);
                case 22:
                    return found(in, a[4]);
                case 23:
                    return in.skip((long) a[3] * a[2]);
                case 24:
                    return in.available();
                case 25:
                    in.mark(a[4]);
                    return in.available();
                default:
                    in.reset();
                    return in.available();
            }
        }

        private static byte[] some(In in, int many) {
            try {
                return in.readNBytes(many);
            } catch (IOException never) {
                throw new AssertionError(never);
            }
        }

        private static int number(In in) {
            if (in.available() < 4) {
                throw new NoSuchElementException();
            }
            return in.read() << 24 | in.read() << 16 | in.read() << 8 | in.read();
        }

        private int line(In in, int row) {
            if (in.available() == 0) {
                return -1;
            }
            ByteArrayOutputStream line = new ByteArrayOutputStream();
            for (int next = in.read(); next != -1 && next != 10; next = in.read()) {
                line.write(next);
            }
            rows[row] = line.toByteArray();
            return line.size();
        }

        private static int found(In in, int number) {
            int many = 0;
            for (int next = in.read(); next != -1; next = in.read()) {
                many++;
                if (next == number) {
                    return many;
                }
            }
            return -1 - many;
        }

        private Object askLast(int kind, int[] a) {
            switch (kind) {
                case 27:
                    return poured(a[0], a[1]);
                case 28:
                    return pouredByParts(a[0], a[1], a[3]);
                case 29:
                    return likeEachOther(a[0], a[1]);
                case 30:
                    In in = ins[inside(a[0], 3)];
                    open(in);
                    return share(in);
                case 31:
                    return mean();
                case 32:
                    return checksum();
                default:
                    return true;
            }
        }

        private int poured(int reader, int gatherer) {
            In in = ins[inside(reader, 3)];
            ByteArrayOutputStream out = outs[inside(gatherer, 3)];
            open(in);
            room(out, in.available());
            int many = in.available();
            out.writeBytes(in.readAllBytes());
            return many;
        }

        private int pouredByParts(int reader, int gatherer, int part) {
            In in = ins[inside(reader, 3)];
            ByteArrayOutputStream out = outs[inside(gatherer, 3)];
            legal(part >= 1 && part <= 64);
            open(in);
            room(out, in.available());
            byte[] beside = new byte[part];
            int parts = 0;
            for (int many = in.read(beside, 0, part); many > 0; many = in.read(beside, 0, part)) {
                out.write(beside, 0, many);
                parts++;
            }
            return parts;
        }

        private int likeEachOther(int reader, int other) {
            In one = ins[inside(reader, 3)];
            In two = ins[inside(other, 3)];
            legal(reader != other);
            open(one);
            open(two);
            int many = 0;
            one.mark(0);
            two.mark(0);
            while (one.available() > 0 && two.available() > 0 && one.read() == two.read()) {
                one.mark(0);
                two.mark(0);
                many++;
            }
            one.reset();
            two.reset();
            return many;
        }

        private static float share(In in) {
            if (in.array().length == 0) {
                throw new ArithmeticException();
            }
            return (float) in.available() / in.array().length;
        }

        private double mean() {
            double sum = 0;
            double many = 0;
            for (ByteArrayOutputStream out : outs) {
                sum += out.size();
                many += out.size() > 0 ? 1 : 0;
            }
            if (many == 0) {
                throw new ArithmeticException();
            }
            return sum / many;
        }

        long checksum() {
            long sum = 7;
            for (byte[] row : rows) {
                sum = withBytes(sum, row);
            }
            for (ByteArrayOutputStream out : outs) {
                sum = withBytes(sum, out.toByteArray());
            }
            for (In in : ins) {
                sum = sum * 31 + (in == null ? -1 : in.array().length - in.place());
            }
            return sum;
        }

        private static long withBytes(long sum, byte[] bytes) {
            long added = sum * 31 + bytes.length;
            for (byte one : bytes) {
                added = added * 31 + one;
            }
            return added;
        }

        private static int inside(int index, int bound) {
            if (index < 0 || index >= bound) {
                throw new IndexOutOfBoundsException();
            }
            return index;
        }

        private static void legal(boolean held) {
            if (!held) {
                throw new IllegalArgumentException();
            }
        }

        private static void open(In in) {
            if (in == null) {
                throw new UnsupportedOperationException();
            }
        }

        private static void room(ByteArrayOutputStream out, int many) {
            if (out.size() + many > 256) {
                throw new IllegalStateException();
            }
        }
    }
}
