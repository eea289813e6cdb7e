/** Promise 5: holds, of the town 'all' and of towns with parts left out. */
public final class Promise05HoldsTest {
    private static final ServiceDrawer X = new ServiceDrawer();

    private static void verdicts(String of, int... want) {
        for (int v = 0; v < want.length; v++) {
            Due.answers("holds(" + v + ") of " + of, want[v], Due.holds(X, v));
        }
    }

    private static void leaveAll(int from, int to) {
        for (int p = from; p <= to; p++) {
            if (X.part(p, 0) == 1) {
                X.leave(p, true);
            }
        }
    }

    public static void main(String[] args) {
        verdicts("a new town", 0, 0, 0, 0, 0);
        X.draw(5, 20);
        verdicts("5, 20", 0, 1, 0, 1, 1);
        X.draw(2, 3);
        verdicts("2, 3: no unit has the skill of call 3", 1, 0, 0, 1, 0);
        X.draw(11, 4);
        verdicts("11, 4: skills 2, 2, 1", 0, 0, 1, 1, 1);
        served();
        meeting();
        edges();
        nothing();
        for (int wrong : new int[] {-1, 5, Integer.MIN_VALUE, Integer.MAX_VALUE}) {
            Due.refuses("holds(" + wrong + ")", Due.UNKNOWN, Due.holds(X, wrong));
        }
        Due.end();
    }

    private static void served() {
        X.draw(9, 3);
        verdicts("9, 3", 0, 0, 0, 0, 0);
        X.leave(2, true);
        verdicts("no way to corner 3", 1, 0, 0, 0, 0);
        X.leave(42, true);
        verdicts("no call there", 0, 0, 0, 0, 0);
        X.leave(31, true);
        verdicts("no unit of skill 0", 1, 0, 0, 0, 0);
        X.leave(31, false);
        X.leave(30, true);
        verdicts("no unit of skill 2", 1, 0, 1, 0, 0);
        leaveAll(0, 29);
        leaveAll(43, 43);
        verdicts("at its own corner no street is needed", 0, 0, 1, 0, 0);
    }

    private static void meeting() {
        X.draw(7, 12);
        Due.answers("two calls meet", 1, Due.holds(X, 1));
        X.leave(52, true);
        Due.answers("one of both is left out", 0, Due.holds(X, 1));
        X.leave(52, false);
        X.leave(53, true);
        Due.answers("the other is left out", 0, Due.holds(X, 1));
        X.draw(-1, 2);
        Due.answers("one minute, three corners", 0, Due.holds(X, 1));
    }

    private static void edges() {
        X.draw(45, 4);
        Due.answers("300 metres", 0, Due.holds(X, 4));
        X.draw(145, 4);
        Due.answers("301 metres", 1, Due.holds(X, 4));
        X.leave(0, true);
        Due.answers("without one street", 0, Due.holds(X, 4));
        X.draw(53, 3);
        Due.answers("the longest way is 99", 0, Due.holds(X, 3));
        X.draw(14, 3);
        Due.answers("the longest way is 100", 1, Due.holds(X, 3));
        X.leave(31, true);
        Due.answers("without its unit", 0, Due.holds(X, 3));
        X.leave(31, false);
        X.leave(0, true);
        Due.answers("those that can't come do not count", 0, Due.holds(X, 3));
    }

    private static void nothing() {
        X.draw(5, 20);
        leaveAll(0, 61);
        verdicts("a town of which nothing is there", 0, 0, 1, 0, 0);
    }
}
