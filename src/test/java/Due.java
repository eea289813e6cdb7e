import java.util.function.LongSupplier;

/** Compares what calls answer with what is due, and ends a test with exit code 1 if one was wrong. */
final class Due {
    private static int wrong = 0;

    private Due() {
    }

    static final Class<? extends RuntimeException> UNKNOWN = IllegalArgumentException.class;
    static final Class<? extends RuntimeException> RANGE = IndexOutOfBoundsException.class;
    static final Class<? extends RuntimeException> STATE = IllegalStateException.class;
    static final Class<? extends RuntimeException> NO_ROOM = UnsupportedOperationException.class;

    /** What a call answers as a text, an exception by its exact class. */
    static String told(LongSupplier call) {
        try {
            return Long.toString(call.getAsLong());
        } catch (RuntimeException e) {
            return "throws " + e.getClass().getSimpleName();
        }
    }

    static void same(String what, String got, String want) {
        if (!got.equals(want)) {
            wrong++;
            System.out.println(what + " answered " + got + ", due is " + want);
        }
    }

    static void answers(String what, long want, LongSupplier call) {
        same(what, told(call), Long.toString(want));
    }

    static void refuses(String what, Class<? extends RuntimeException> want, LongSupplier call) {
        same(what, told(call), "throws " + want.getSimpleName());
    }

    static LongSupplier leave(ServiceDrawer x, int part, boolean out) {
        return () -> {
            x.leave(part, out);
            return 0;
        };
    }

    static LongSupplier holds(ServiceDrawer x, int verdict) {
        return () -> x.holds(verdict) ? 1 : 0;
    }

    /** The present town's text, by a new print. */
    static String text(ServiceDrawer x) {
        int length = x.print();
        StringBuilder text = new StringBuilder();
        for (int i = 0; i < length; i++) {
            text.append((char) x.at(i));
        }
        return text.toString();
    }

    /** Everything that can be asked of the present town; it does not touch the print or the tape. */
    static String state(ServiceDrawer x) {
        StringBuilder state = new StringBuilder();
        for (int what = 0; what <= 5; what++) {
            state.append(x.count(what)).append(' ');
        }
        for (int p = 0; p <= 61; p++) {
            for (int what = 0; what <= 4; what++) {
                state.append(x.part(p, what)).append(' ');
            }
        }
        return state.toString();
    }

    /** Puts a text on the tape, eight bytes a call where there are so many. */
    static void sign(ServiceDrawer x, String text) {
        for (int i = 0; i < text.length(); i += 8) {
            int n = Math.min(8, text.length() - i);
            long bytes = 0;
            for (int j = i; j < i + n; j++) {
                bytes = bytes << 8 | text.charAt(j);
            }
            x.sign(bytes, n);
        }
    }

    static void end() {
        if (wrong != 0) {
            System.out.println(wrong + " answers are not as due");
            System.exit(1);
        }
    }
}
