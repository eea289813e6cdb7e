/** Promise 13: count. */
public final class Promise13CountTest {
    private static final ServiceDrawer X = new ServiceDrawer();

    private static void counts(String of, int... want) {
        for (int what = 0; what < want.length; what++) {
            int asked = what;
            Due.answers("count(" + what + ") of " + of, want[what], () -> X.count(asked));
        }
    }

    public static void main(String[] args) {
        counts("a new town", 1, 0, 1, 1, 1, 0);
        X.draw(5, 20);
        counts("5, 20", 21, 30, 11, 21, 21, 6);
        X.draw(7, 12);
        counts("7, 12", 13, 17, 7, 13, 13, 2);
        // Calls at 2:0@878, 3:1@878, 1:2@1061, 2:1@1061; units at 2 with skills 6 and 3.
        X.draw(9, 3);
        counts("9, 3", 4, 4, 2, 4, 4, 2);
        X.leave(2, true);
        counts("no street to call 1", 4, 3, 2, 4, 3, 2);
        X.leave(41, true);
        counts("call 1 is no burst without call 0", 4, 3, 2, 3, 2, 1);
        X.leave(31, true);
        counts("unit 0 has skills 1 and 2", 4, 3, 1, 3, 2, 1);
        X.leave(44, true);
        counts("call 3 is left out", 4, 3, 1, 2, 1, 0);
        X.leave(30, true);
        counts("no unit", 4, 3, 0, 2, 0, 0);
        betweenLeftOut();
        for (int wrong : new int[] {-1, 6, Integer.MIN_VALUE, Integer.MAX_VALUE}) {
            Due.refuses("count(" + wrong + ")", Due.UNKNOWN, () -> X.count(wrong));
        }
        Due.end();
    }

    /** A burst needs no neighbour: any lower call of its minute makes it one. */
    private static void betweenLeftOut() {
        X.draw(-1, 2);
        counts("three calls of one minute", 3, 3, 2, 3, 3, 2);
        X.leave(42, true);
        counts("without the middle one", 3, 3, 2, 2, 2, 1);
        X.leave(41, true);
        counts("the last alone", 3, 3, 2, 1, 1, 0);
    }
}
