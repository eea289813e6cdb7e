/** Promise 8: find. */
public final class Promise08FindTest {
    private static void finds(int verdict, int seed, int size, int n, int want) {
        Made.busy().onlyAnswers("find(" + verdict + ", " + seed + ", " + size + ", " + n + ")", want,
            x -> x.find(verdict, seed, size, n));
    }

    private static void refuses(int verdict, int size, int n, Class<? extends RuntimeException> by) {
        Made.busy().refuses("find(" + verdict + ", 0, " + size + ", " + n + ")", by, x -> x.find(verdict, 0, size, n));
    }

    public static void main(String[] args) {
        firstOfN();
        inThirtyTwoBits();
        presentTownStays();
        verdicts();
        sizes();
        manySeeds();
        Due.end();
    }

    private static void firstOfN() {
        finds(0, 1, 3, 50, 2);
        finds(0, 1, 3, 2, 2);
        finds(0, 1, 3, 1, -1);
        finds(0, 2, 3, 1, 2);
        finds(1, 1, 20, 50, 1);
        finds(2, -9, 4, 50, 11);
        finds(2, -9, 4, 21, 11);
        finds(2, -9, 4, 20, -1);
        finds(3, -30, 2, 50, -29);
        finds(3, 1, 0, 50, -1);
        finds(4, 0, 20, 1, 0);
        // The last one of 50, and one behind it.
        finds(2, -224, 6, 50, -175);
        finds(2, -224, 6, 49, -1);
        finds(2, -225, 6, 50, -1);
        finds(0, -110, 6, 50, -61);
        finds(0, -111, 6, 50, -1);
    }

    /** From the highest seed on the seeds go round to the lowest. */
    private static void inThirtyTwoBits() {
        finds(0, Integer.MAX_VALUE, 6, 12, -2147483638);
        finds(0, Integer.MAX_VALUE, 6, 11, -1);
        finds(2, Integer.MAX_VALUE, 6, 43, -2147483607);
        finds(4, Integer.MAX_VALUE, 20, 1, Integer.MAX_VALUE);
        finds(4, Integer.MIN_VALUE, 20, 1, Integer.MIN_VALUE);
        // A seed of -1 is found as any other.
        finds(4, -1, 20, 50, -1);
        finds(4, -2, 20, 50, -2);
    }

    /** "the present town stays": with a seed that is found and without one, and also when it is left out in part. */
    private static void presentTownStays() {
        Made large = Made.town(5, 20, 0, 61);
        large.onlyAnswers("find(0, 1, 3, 50)", 2, x -> x.find(0, 1, 3, 50));
        large.onlyAnswers("find(3, 1, 0, 50)", -1, x -> x.find(3, 1, 0, 50));
        Made small = Made.fresh();
        small.onlyAnswers("find(1, 1, 20, 50)", 1, x -> x.find(1, 1, 20, 50));
        // Of a town that is looked for nothing is left out, whatever is of the present one.
        Made.town(4, 20).withoutAll(0, 61).is("find(4, 4, 20, 1)", 4, x -> x.find(4, 4, 20, 1));
        // The shared test asks so: part 29, that the town found has, is none of the present one.
        Made found = Made.town(9, 3).after(x -> x.find(4, 1, 20, 1));
        found.refuses("leave(29, true)", Due.UNKNOWN, x -> x.leave(29, true));
    }

    private static void verdicts() {
        for (int verdict : Made.WRONG_VERDICTS) {
            refuses(verdict, 0, 1, Due.UNKNOWN);
            refuses(verdict, 21, 1, Due.UNKNOWN);
            refuses(verdict, 0, 51, Due.UNKNOWN);
            refuses(verdict, -1, 0, Due.UNKNOWN);
        }
    }

    private static void sizes() {
        for (int size : Made.WRONG_SIZES) {
            refuses(0, size, 1, Due.RANGE);
            refuses(4, size, 50, Due.RANGE);
        }
        finds(4, 5, 20, 50, 5);
        finds(2, 0, 0, 50, 1);
    }

    private static void manySeeds() {
        for (int n : new int[] {-1, 0, 51, Integer.MIN_VALUE, Integer.MAX_VALUE}) {
            refuses(0, 0, n, Due.RANGE);
            refuses(4, 20, n, Due.RANGE);
        }
    }
}
