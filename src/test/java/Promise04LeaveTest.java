/** Promise 4: leave. */
public final class Promise04LeaveTest {
    private static final ServiceDrawer X = new ServiceDrawer();

    private static void refuses(int part, boolean out, Class<? extends RuntimeException> by) {
        String before = Due.state(X);
        Due.refuses("leave(" + part + ", " + out + ")", by, Due.leave(X, part, out));
        Due.same("state after", Due.state(X), before);
    }

    public static void main(String[] args) {
        X.draw(9, 3);
        for (int part : new int[] {0, 20, 31, 44}) {
            String before = Due.state(X);
            refuses(part, false, Due.STATE);
            Due.answers("leave out " + part, 0, Due.leave(X, part, true));
            Due.answers("it is there", 0, () -> X.part(part, 0));
            refuses(part, true, Due.STATE);
            Due.answers("take in " + part, 0, Due.leave(X, part, false));
            Due.same("state after", Due.state(X), before);
        }
        X.leave(2, true);
        X.leave(30, true);
        X.leave(42, true);
        Due.same("text", Due.text(X), "s0-1:21;s0-2:78;s1-2:81;u2:3;c2:0@878;c1:2@1061;c2:1@1061;");
        for (int part : new int[] {3, 19, 21, 29, 32, 40, 45, 61, 62, -1, Integer.MIN_VALUE, Integer.MAX_VALUE}) {
            refuses(part, true, Due.UNKNOWN);
            refuses(part, false, Due.UNKNOWN);
        }
        X.draw(7, 12);
        // Both ends of this further street are one corner.
        refuses(21, true, Due.UNKNOWN);
        refuses(21, false, Due.UNKNOWN);
        Due.end();
    }
}
