import java.lang.reflect.InvocationTargetException;
import java.lang.reflect.Method;
import java.util.Arrays;
import java.util.Comparator;
import java.util.Objects;

/** Counts the answers that are not the ones that are due. */
final class Check {
    interface Call {
        Object answer();
    }

    /** Makes the same well each time. */
    interface Maker {
        Well make();
    }

    interface Use {
        Object of(Well well);
    }

    // The first ones tell enough; a broken class can give thousands.
    private static final int MOST_PRINTED = 25;

    private static int wrong = 0;

    private Check() {
    }

    static void due(String what, Object got, Object want) {
        if (!Objects.equals(got, want)) {
            wrong++;
            if (wrong <= MOST_PRINTED) {
                System.out.println(what + " answered " + got + ", due is " + want);
            }
        }
    }

    /** The call's answer, or the name of what it throws. */
    static Object outcome(Call call) {
        try {
            return call.answer();
        } catch (RuntimeException thrown) {
            return "throws." + thrown.getClass().getSimpleName();
        }
    }

    static void dueThrown(String what, Class<? extends RuntimeException> want, Call call) {
        due(what, outcome(call), "throws." + want.getSimpleName());
    }

    /** The call must throw just this, and leave a well of which all answers what it does without the call. */
    static void refused(String what, Maker maker, Class<? extends RuntimeException> want, Use use) {
        Well well = maker.make();
        dueThrown(what, want, () -> use.of(well));
        due(what + ", all of the well after it,", allOf(well), allOf(maker.make()));
    }

    /** The call must answer just this, and leave a well of which all answers what it does without the call. */
    static void changesNothing(String what, Maker maker, Object want, Use use) {
        Well well = maker.make();
        due(what, outcome(() -> use.of(well)), want);
        due(what + ", all of the well after it,", allOf(well), allOf(maker.make()));
    }

    /** All that can be asked of a well, which is used up by it. It takes some 130 calls. */
    static String allOf(Well well) {
        StringBuilder told = new StringBuilder();
        told.append("sum ").append(well.checksum());
        for (int row = 0; row < 4; row++) {
            told.append(" length ").append(well.length(row));
        }
        for (int i = 0; i < 3; i++) {
            told.append(" size ").append(well.size(i));
        }
        for (int reader = 0; reader < 3; reader++) {
            told.append(" reader ").append(reader).append(readerOf(well, reader));
        }
        told.append(sharingOf(well));
        for (int row = 0; row < 4; row++) {
            well.fill(row, 0, well.length(row), 60 * row, 1);
            told.append(" filled ").append(row);
            for (int reader = 0; reader < 2; reader++) {
                told.append(' ').append(aheadOf(well, reader));
            }
        }
        // Not sooner: what isTrue() could change would be changed in both wells that are held against each other.
        return told.append(" true ").append(well.isTrue()).toString();
    }

    /** What is ahead of it, then from its mark on, and which rows are its array. */
    private static String readerOf(Well well, int reader) {
        if (!well.isOpen(reader)) {
            return " shut";
        }
        StringBuilder told = new StringBuilder(" left ").append(well.left(reader));
        for (int row = 0; row < 4; row++) {
            int here = row;
            told.append(' ').append(outcome(() -> well.readFull(reader, here, 0, 0)));
        }
        return told.append(' ').append(aheadOf(well, reader)).append(' ').append(aheadOf(well, reader)).toString();
    }

    /** The reader is at its mark then, and gatherer 0 has what was ahead of it. */
    private static String aheadOf(Well well, int reader) {
        if (!well.isOpen(reader)) {
            return "shut";
        }
        well.empty(0);
        return "ahead " + well.pour(reader, 0) + " sum " + well.checksum() + " back " + well.back(reader);
    }

    /** Which rows are the very same array. Reader 2 is open then. */
    private static String sharingOf(Well well) {
        StringBuilder told = new StringBuilder(" sharing");
        for (int row = 0; row < 4; row++) {
            well.open(2, row);
            for (int other = 0; other < row; other++) {
                int here = other;
                told.append(' ').append(outcome(() -> well.readFull(2, here, 0, 0)));
            }
        }
        return told.toString();
    }

    /** Runs each method of a test that is named after a promise or after the terms, and ends the program. */
    static void runAll(Class<?> test) {
        Method[] methods = test.getDeclaredMethods();
        Arrays.sort(methods, Comparator.comparing(Method::getName));
        int ran = 0;
        for (Method method : methods) {
            if (method.getName().startsWith("promise") || method.getName().startsWith("terms")) {
                ran++;
                run(method);
            }
        }
        due("is there a test in " + test.getName(), ran > 0, true);
        System.out.println(ran + " tests");
        finish();
    }

    private static void run(Method method) {
        int before = wrong;
        try {
            method.invoke(null);
        } catch (InvocationTargetException thrown) {
            due(method.getName(), "throws " + thrown.getCause(), "an end");
        } catch (IllegalAccessException never) {
            throw new AssertionError(never);
        }
        if (wrong > before) {
            System.out.println("FAILED: " + method.getName());
        }
    }

    static void finish() {
        System.out.println(wrong == 0 ? "all answers are as due" : wrong + " answers are not as due");
        if (wrong != 0) {
            System.exit(1);
        }
    }
}
