/** Promise 13: count. */
public final class Promise13CountTest {
    private static void counts(String of, String want, Made town) {
        Due.same("counts of " + of, town.counts(), want);
    }

    public static void main(String[] args) {
        counts("a new town", "1 0 1 1 1 0", Made.fresh());
        counts("5, 20", "21 30 11 21 21 6", Made.town(5, 20));
        counts("7, 12", "13 17 7 13 13 2", Made.town(7, 12));
        thatAreThere();
        bursts();
        counts("a town of which nothing is there", "21 0 0 0 0 0", Made.town(5, 20).withoutAll(0, 61));
        for (int what : new int[] {-1, 6, Integer.MIN_VALUE, Integer.MAX_VALUE}) {
            Made.busy().refuses("count(" + what + ")", Due.UNKNOWN, x -> x.count(what));
        }
        Made.busy().onlyAnswers("count(0)", 4, x -> x.count(0));
        Made.busy().onlyAnswers("count(4)", 2, x -> x.count(4));
        Made.busy().onlyAnswers("count(5)", 1, x -> x.count(5));
        Due.end();
    }

    /** s0-1:21 s0-2:78 s2-3:35 s1-2:81, u2:6 u2:3, c2:0@878 c3:1@878 c1:2@1061 c2:1@1061; "(corners: all)" */
    private static void thatAreThere() {
        counts("9, 3", "4 4 2 4 4 2", Made.town(9, 3));
        counts("no street to call 1", "4 3 2 4 3 2", Made.town(9, 3, 2));
        counts("call 1 is no burst without call 0", "4 3 2 3 2 1", Made.town(9, 3, 2, 41));
        counts("unit 0 has skills 1 and 2", "4 3 1 3 2 1", Made.town(9, 3, 2, 41, 31));
        counts("call 3 is left out", "4 3 1 2 1 0", Made.town(9, 3, 2, 41, 31, 44));
        counts("no unit", "4 3 0 2 0 0", Made.town(9, 3, 2, 41, 31, 44, 30));
        counts("no street", "4 0 2 4 2 2", Made.town(9, 3).withoutAll(0, 29));
    }

    /** "calls there with the minute of another one that is there and has a lower number" */
    private static void bursts() {
        counts("three calls of one minute", "3 3 2 3 3 2", Made.town(-1, 2));
        counts("without the first", "3 3 2 2 2 1", Made.town(-1, 2, 41));
        counts("without the middle one", "3 3 2 2 2 1", Made.town(-1, 2, 42));
        counts("without the last", "3 3 2 2 2 1", Made.town(-1, 2, 43));
        counts("the last alone", "3 3 2 1 1 0", Made.town(-1, 2, 41, 42));
        // c2:2@1186;c0:0@675;c0:2@1186: not side by side, and not drawn as a burst.
        counts("two calls of one minute by chance", "3 3 2 3 3 1", Made.town(1460, 2));
        counts("without the one between", "3 3 2 2 2 1", Made.town(1460, 2, 42));
        counts("without the lower one", "3 3 2 2 2 0", Made.town(1460, 2, 41));
        // c2:0@1186;c1:0@472;c2:1@472;c1:2@1186
        counts("one within another", "4 4 2 4 4 2", Made.town(1367, 3));
        counts("many", "21 30 11 21 21 15", Made.town(405, 20));
        counts("none of 21", "21 29 11 21 21 0", Made.town(19257, 20));
    }
}
