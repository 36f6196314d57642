/** Counts and prints the answers that are not as due. */
final class Check {
    interface Call {
        int answer();
    }

    static final Class<? extends RuntimeException> NO_INDEX = IndexOutOfBoundsException.class;
    static final Class<? extends RuntimeException> NO_ARGUMENT = IllegalArgumentException.class;
    static final Class<? extends RuntimeException> NO_STATE = IllegalStateException.class;
    static final Class<? extends RuntimeException> NO_ROOM = UnsupportedOperationException.class;

    private static int right = 0;
    private static int wrong = 0;

    private Check() {
    }

    static void same(String what, long got, long want) {
        tell(what, String.valueOf(got), String.valueOf(want));
    }

    static void refused(String what, Class<? extends RuntimeException> want, Call call) {
        tell(what, outcome(call), "throws " + want.getName());
    }

    /** The answer of a call, or the very class that it throws. */
    static String outcome(Call call) {
        try {
            return String.valueOf(call.answer());
        } catch (RuntimeException e) {
            return "throws " + e.getClass().getName();
        }
    }

    static void tell(String what, String got, String want) {
        if (got.equals(want)) {
            right++;
            return;
        }
        wrong++;
        if (wrong <= 50) {
            System.out.println(what + " answered " + got + ", due is " + want);
        }
    }

    static void finish() {
        System.out.println(right + " answers as due, " + wrong + " not");
        if (wrong != 0 || right == 0) {
            System.exit(1);
        }
    }
}
