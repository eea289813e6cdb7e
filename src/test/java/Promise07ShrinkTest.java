/** Promise 7: shrink. What remains of more towns stands in the test of the terms. */
public final class Promise07ShrinkTest {
    public static void main(String[] args) {
        Made.town(2, 3).is("shrink(0)", 8, x -> x.shrink(0));
        Made.town(5, 20).is("shrink(1)", 60, x -> x.shrink(1));
        Made.town(11, 4).is("shrink(2)", 14, x -> x.shrink(2));
        Made.town(7, 12).is("shrink(3)", 32, x -> x.shrink(3));
        Made.town(5, 20).is("shrink(4)", 57, x -> x.shrink(4));
        Due.same("text after shrink(3)", Made.town(7, 12).after(x -> x.shrink(3)).text(),
            "s4-11:9;s8-12:62;s11-12:68;u8:4;c4:1@1225;");
        leftOutByItAlone();
        oneVerdictAfterAnother();
        refusals();
        leavesPrintAndTape();
        Due.end();
    }

    /** "how many parts are left out by it": not those that were left out before; none at all is 0. */
    private static void leftOutByItAlone() {
        Made.town(2, 3, 0, 44).is("shrink(0) with two left out before", 6, x -> x.shrink(0));
        Made.town(2, 3).after(x -> x.shrink(0)).is("shrink(0) again", 0, x -> x.shrink(0));
        Made.town(11, 4).withoutAll(0, 61).is("shrink(2) of nothing", 0, x -> x.shrink(2));
    }

    /** What one verdict leaves may be too little for another one: then this does not hold any more. */
    private static void oneVerdictAfterAnother() {
        Made shrunk = Made.town(5, 20).after(x -> x.shrink(4));
        Due.same("verdicts", shrunk.verdicts(), "00101");
        shrunk.refuses("shrink(3)", Due.STATE, x -> x.shrink(3));
        shrunk.is("shrink(2)", 5, x -> x.shrink(2));
    }

    private static void refusals() {
        for (int verdict = 0; verdict <= 4; verdict++) {
            int v = verdict;
            Made.fresh().refuses("shrink(" + v + ") of a new town", Due.STATE, x -> x.shrink(v));
            Made.town(9, 3, 0).refuses("shrink(" + v + ") of 9, 3 without one", Due.STATE, x -> x.shrink(v));
        }
        for (int verdict : Made.WRONG_VERDICTS) {
            Made.busy().refuses("shrink(" + verdict + ")", Due.UNKNOWN, x -> x.shrink(verdict));
            Made.town(5, 20).refuses("shrink(" + verdict + ")", Due.UNKNOWN, x -> x.shrink(verdict));
        }
        // A call that is left out does not make verdict 0 hold; the shared test asks so.
        Made.town(5, 20, 41).refuses("shrink(0) with a call left out", Due.STATE, x -> x.shrink(0));
    }

    private static void leavesPrintAndTape() {
        Made shrunk = Made.busy().after(x -> x.shrink(0));
        Due.same("the latest print", shrunk.printed(), "u0:6;c0:2@971;");
        shrunk.signed(":1;").is("check()", -1, Counted::check);
    }
}
