/** Promise 5: holds. The edges of each verdict stand in the tests of the terms. */
public final class Promise05HoldsTest {
    private static void verdicts(String want, Made town) {
        Due.same("verdicts", town.verdicts(), want);
    }

    public static void main(String[] args) {
        verdicts("00000", Made.fresh());
        verdicts("01011", Made.town(5, 20));
        verdicts("10010", Made.town(2, 3));
        verdicts("00111", Made.town(11, 4));
        verdicts("00000", Made.town(9, 3));
        verdicts("11100", Made.town(14, 2));
        leftOut();
        // u2:6 alone, c2:0, c3:1, c2:1: no unit there has skill 0.
        Due.same("verdicts", Made.busy().verdicts(), "10000");
        Made.busy().onlyAnswers("holds(0)", 1, x -> x.holds(0) ? 1 : 0);
        Made.busy().onlyAnswers("holds(3)", 0, x -> x.holds(3) ? 1 : 0);
        for (int verdict : Made.WRONG_VERDICTS) {
            Made.busy().refuses("holds(" + verdict + ")", Due.UNKNOWN, x -> x.holds(verdict));
        }
        Due.end();
    }

    /** s0-1:21 s0-2:78 s2-3:35 s1-2:81, u2:6 u2:3, c2:0 c3:1 c1:2 c2:1 */
    private static void leftOut() {
        verdicts("10000", Made.town(9, 3, 2));
        verdicts("00000", Made.town(9, 3, 2, 42));
        verdicts("10000", Made.town(9, 3, 31));
        verdicts("10100", Made.town(9, 3, 30));
        verdicts("00100", Made.town(9, 3, 30, 43));
        verdicts("00100", Made.town(9, 3, 30, 43).without(0, 1, 20));
        verdicts("10100", Made.town(9, 3, 30, 31));
    }
}
