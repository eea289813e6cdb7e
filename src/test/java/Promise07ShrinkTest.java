/** Promise 7: shrink. The texts that remain were worked out apart from the class. */
public final class Promise07ShrinkTest {
    private static final ServiceDrawer X = new ServiceDrawer();

    private static void shrinks(int seed, int size, int verdict, int left, String text) {
        String what = "shrink(" + verdict + ") of " + seed + ", " + size;
        X.draw(seed, size);
        Due.answers(what, left, () -> X.shrink(verdict));
        Due.same("text after " + what, Due.text(X), text);
        Due.answers("it holds on after " + what, 1, Due.holds(X, verdict));
        Due.answers("again " + what, 0, () -> X.shrink(verdict));
    }

    private static void refuses(int verdict, Class<? extends RuntimeException> by) {
        String before = Due.state(X);
        Due.refuses("shrink(" + verdict + ")", by, () -> X.shrink(verdict));
        Due.same("state after", Due.state(X), before);
    }

    public static void main(String[] args) {
        shrinks(2, 3, 0, 8, "c2:1@564;");
        shrinks(5, 20, 1, 60, "c12:1@696;c12:1@696;");
        shrinks(11, 4, 2, 14, "");
        shrinks(7, 12, 3, 32, "s4-11:9;s8-12:62;s11-12:68;u8:4;c4:1@1225;");
        shrinks(5, 20, 3, 58, "s5-19:35;s5-20:90;u20:3;c19:2@1419;");
        shrinks(5, 20, 4, 57, "s11-13:44;s5-20:90;s7-10:65;s0-3:37;s8-17:70;");
        // Of these a second round still leaves out parts.
        shrinks(16, 6, 3, 15, "s2-5:62;s3-5:85;u2:7;c3:2@721;");
        shrinks(2, 12, 3, 33, "s2-7:49;s2-10:53;u10:2;c7:0@897;");
        countsItsOwnAlone();
        refusals();
        Due.end();
    }

    private static void countsItsOwnAlone() {
        X.draw(2, 3);
        X.leave(0, true);
        X.leave(44, true);
        Due.answers("shrink(0)", 6, () -> X.shrink(0));
        Due.same("text", Due.text(X), "c1:0@1174;");
        Due.answers("take in again", 0, Due.leave(X, 0, false));
    }

    private static void refusals() {
        X.draw(9, 3);
        refuses(0, Due.STATE);
        refuses(1, Due.STATE);
        refuses(2, Due.STATE);
        refuses(4, Due.STATE);
        for (int wrong : new int[] {-1, 5, Integer.MIN_VALUE, Integer.MAX_VALUE}) {
            refuses(wrong, Due.UNKNOWN);
        }
        X.draw(0, 0);
        refuses(3, Due.STATE);
    }
}
