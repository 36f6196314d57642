/** Counts and prints the answers that are not as due. */
final class Check {
    interface Call {
        int answer();
    }

    static final Class<? extends RuntimeException> NO_INDEX = IndexOutOfBoundsException.class;
    static final Class<? extends RuntimeException> NO_ARGUMENT = IllegalArgumentException.class;
    static final Class<? extends RuntimeException> NO_STATE = IllegalStateException.class;
    static final Class<? extends RuntimeException> NO_ROOM = UnsupportedOperationException.class;

    private static final int MOST_PRINTED = 50;

    private static int right = 0;
    private static int wrong = 0;

    private Check() {
    }

    static int right() {
        return right;
    }

    static int wrong() {
        return wrong;
    }

    static void same(String what, long got, long want) {
        tell(what, String.valueOf(got), String.valueOf(want));
    }

    static void refused(String what, Class<? extends RuntimeException> want, Call call) {
        tell(what, outcome(call), thrown(want));
    }

    static String thrown(Class<? extends RuntimeException> kind) {
        return "throws " + kind.getName();
    }

    /** The answer of a call, or the very class that it throws. */
    static String outcome(Call call) {
        try {
            return String.valueOf(call.answer());
        } catch (RuntimeException e) {
            return thrown(e.getClass()) + thrownInLibrary(e);
        }
    }

    /** Only a throw statement of the class's own is due, so one of the library's is a fault. */
    private static String thrownInLibrary(RuntimeException e) {
        StackTraceElement[] trace = e.getStackTrace();
        String place = trace.length > 0 ? trace[0].getClassName() : "";
        return place.startsWith("java.") || place.startsWith("jdk.") ? " in " + place : "";
    }

    static void tell(String what, String got, String want) {
        if (got.equals(want)) {
            right++;
        } else {
            fault(what + " answered " + got + ", due is " + want);
        }
    }

    static void fault(String what) {
        wrong++;
        if (wrong <= MOST_PRINTED) {
            System.out.println(what);
        }
    }

    static void finish() {
        System.out.println(right + " answers as due, " + wrong + " not");
        if (wrong != 0 || right == 0) {
            System.exit(1);
        }
    }
}
