import java.util.function.LongSupplier;

/** Compares what calls answer with what is due, and ends a test with exit code 1 if one was wrong. */
final class Due {
    static final Class<? extends RuntimeException> UNKNOWN = IllegalArgumentException.class;
    static final Class<? extends RuntimeException> RANGE = IndexOutOfBoundsException.class;
    static final Class<? extends RuntimeException> STATE = IllegalStateException.class;
    static final Class<? extends RuntimeException> NO_ROOM = UnsupportedOperationException.class;

    private static int wrong = 0;

    private Due() {
    }

    /** What a call answers as a text, an exception by its exact class. */
    static String told(LongSupplier call) {
        try {
            return Long.toString(call.getAsLong());
        } catch (RuntimeException e) {
            return "throws " + e.getClass().getSimpleName();
        }
    }

    static void same(String what, String got, String want) {
        if (!got.equals(want)) {
            wrong++;
            System.out.println(what + " answered " + got + ", due is " + want);
        }
    }

    static void answers(String what, long want, LongSupplier call) {
        same(what, told(call), Long.toString(want));
    }

    static void refuses(String what, Class<? extends RuntimeException> want, LongSupplier call) {
        same(what, told(call), "throws " + want.getSimpleName());
    }

    static void end() {
        if (wrong != 0) {
            System.out.println(wrong + " answers are not as due");
            System.exit(1);
        }
    }
}
