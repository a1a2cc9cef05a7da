import java.util.Objects;

/** Counts the answers that are not the ones that are due. */
final class Check {
    interface Call {
        Object answer();
    }

    // The first ones tell enough; a broken class can give thousands.
    private static final int MOST_PRINTED = 25;

    private static int wrong = 0;

    private Check() {
    }

    static void due(String what, Object got, Object want) {
        if (!Objects.equals(got, want)) {
            wrong++;
            if (wrong <= MOST_PRINTED) {
                System.out.println(what + " answered " + got + ", due is " + want);
            }
        }
    }

    /** The call's answer, or the name of what it throws. */
    static Object outcome(Call call) {
        try {
            return call.answer();
        } catch (RuntimeException thrown) {
            return "throws." + thrown.getClass().getSimpleName();
        }
    }

    /** The call must throw just this, and leave all that can be asked of the well as it was. */
    static void refused(String what, Bytewell well, Class<? extends RuntimeException> want, Call call) {
        String before = stateOf(well);
        due(what, outcome(call), "throws." + want.getSimpleName());
        due(what + ", the state after it,", stateOf(well), before);
    }

    static String stateOf(Bytewell well) {
        StringBuilder state = new StringBuilder();
        for (int row = 0; row < 4; row++) {
            state.append(" row");
            for (int i = 0; i < well.length(row); i++) {
                state.append(' ').append(well.get(row, i));
            }
        }
        for (int i = 0; i < 3; i++) {
            state.append(" size ").append(well.size(i));
            state.append(well.isOpen(i) ? " left " + well.left(i) : " shut");
        }
        return state.append(" sum ").append(well.checksum()).toString();
    }

    static void finish() {
        System.out.println(wrong == 0 ? "all answers are as due" : wrong + " answers are not as due");
        if (wrong != 0) {
            System.exit(1);
        }
    }
}
