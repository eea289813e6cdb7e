/** Promise 8: find. */
public final class Promise08FindTest {
    private static final ServiceDrawer X = new ServiceDrawer();

    private static void finds(int verdict, int seed, int size, int n, int want) {
        String before = Due.state(X);
        Due.answers("find(" + verdict + ", " + seed + ", " + size + ", " + n + ")", want,
            () -> X.find(verdict, seed, size, n));
        Due.same("state after", Due.state(X), before);
    }

    private static void refuses(int verdict, int size, int n, Class<? extends RuntimeException> by) {
        String before = Due.state(X);
        Due.refuses("find(" + verdict + ", 0, " + size + ", " + n + ")", by, () -> X.find(verdict, 0, size, n));
        Due.same("state after", Due.state(X), before);
    }

    public static void main(String[] args) {
        X.draw(9, 3);
        X.leave(0, true);
        finds(0, 1, 3, 50, 2);
        finds(0, 1, 3, 2, 2);
        finds(0, 1, 3, 1, -1);
        finds(1, 1, 20, 50, 1);
        finds(2, -9, 4, 50, 11);
        finds(3, -30, 2, 50, -29);
        finds(3, 1, 0, 50, -1);
        finds(4, 0, 20, 1, 0);
        // From the highest seed on the seeds go round to the lowest.
        finds(0, Integer.MAX_VALUE, 6, 12, -2147483638);
        finds(0, Integer.MAX_VALUE, 6, 11, -1);
        finds(2, Integer.MAX_VALUE, 6, 43, -2147483607);
        refusals();
        leavesPrintAndTape();
        Due.end();
    }

    private static void refusals() {
        for (int wrong : new int[] {-1, 5, Integer.MIN_VALUE, Integer.MAX_VALUE}) {
            refuses(wrong, 0, 1, Due.UNKNOWN);
            refuses(wrong, 21, 0, Due.UNKNOWN);
        }
        for (int wrong : new int[] {-1, 21, Integer.MIN_VALUE, Integer.MAX_VALUE}) {
            refuses(0, wrong, 1, Due.RANGE);
        }
        for (int wrong : new int[] {-1, 0, 51, Integer.MIN_VALUE, Integer.MAX_VALUE}) {
            refuses(0, 0, wrong, Due.RANGE);
        }
    }

    private static void leavesPrintAndTape() {
        X.draw(0, 0);
        X.print();
        X.sign('x', 1);
        X.find(0, 1, 3, 50);
        Due.answers("at(0)", 'u', () -> X.at(0));
        Due.answers("check()", 0, X::check);
    }
}
