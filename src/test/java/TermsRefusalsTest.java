/** Terms: the order of refusals, and that what is refused changes nothing. */
public final class TermsRefusalsTest {
    public static void main(String[] args) {
        unknownBeforeRange();
        unknownBeforeState();
        rangeBeforeRoom();
        changesNothing();
        changesNothingOnAFullTape();
        Due.end();
    }

    private static void unknownBeforeRange() {
        for (int verdict : Made.WRONG_VERDICTS) {
            for (int size : new int[] {-1, 0, 20, 21}) {
                for (int n : new int[] {0, 1, 50, 51}) {
                    String call = "find(" + verdict + ", 0, " + size + ", " + n + ")";
                    Due.refuses(call, Due.UNKNOWN, () -> new Counted().find(verdict, 0, size, n));
                }
            }
        }
    }

    /** Nothing holds of this town, and a part that a town has not is neither there nor left out. */
    private static void unknownBeforeState() {
        Made town = Made.town(9, 3);
        Due.same("verdicts", town.verdicts(), "00000");
        for (int verdict : Made.WRONG_VERDICTS) {
            town.refuses("shrink(" + verdict + ")", Due.UNKNOWN, x -> x.shrink(verdict));
        }
        town.refuses("leave(3, false)", Due.UNKNOWN, x -> x.leave(3, false));
        town.refuses("leave(3, true)", Due.UNKNOWN, x -> x.leave(3, true));
    }

    private static void rangeBeforeRoom() {
        Made full = Made.fresh().signed("x".repeat(600));
        for (int n : new int[] {0, 9, -1, Integer.MIN_VALUE, Integer.MAX_VALUE}) {
            Due.refuses("sign(0, " + n + ") on a full tape", Due.RANGE, () -> full.get().sign(0, n));
        }
    }

    private static void changesNothing() {
        Made busy = Made.busy();
        busy.refuses("draw(5, -1)", Due.RANGE, x -> x.draw(5, -1));
        busy.refuses("draw(5, 21)", Due.RANGE, x -> x.draw(5, 21));
        busy.refuses("part(62, 0)", Due.UNKNOWN, x -> x.part(62, 0));
        busy.refuses("part(0, 5)", Due.UNKNOWN, x -> x.part(0, 5));
        busy.refuses("leave(62, true)", Due.UNKNOWN, x -> x.leave(62, true));
        busy.refuses("leave(0, true)", Due.STATE, x -> x.leave(0, true));
        busy.refuses("leave(1, false)", Due.STATE, x -> x.leave(1, false));
        busy.refuses("holds(5)", Due.UNKNOWN, x -> x.holds(5));
        busy.refuses("way(2, 0)", Due.UNKNOWN, x -> x.way(2, 0));
        busy.refuses("shrink(5)", Due.UNKNOWN, x -> x.shrink(5));
        busy.refuses("shrink(1)", Due.STATE, x -> x.shrink(1));
        busy.refuses("find(5, 0, 0, 1)", Due.UNKNOWN, x -> x.find(5, 0, 0, 1));
        busy.refuses("find(0, 0, 21, 1)", Due.RANGE, x -> x.find(0, 0, 21, 1));
        busy.refuses("find(0, 0, 3, 51)", Due.RANGE, x -> x.find(0, 0, 3, 51));
        busy.refuses("find(0, 0, 3, 0)", Due.RANGE, x -> x.find(0, 0, 3, 0));
        busy.refuses("at(-1)", Due.RANGE, x -> x.at(-1));
        busy.refuses("sign(0, 0)", Due.RANGE, x -> x.sign(0, 0));
        busy.refuses("sign(0, 9)", Due.RANGE, x -> x.sign(0, 9));
        busy.refuses("count(6)", Due.UNKNOWN, x -> x.count(6));
        // The text that was begun goes on behind a refusal as if that had not been.
        Made refused = busy.after(x -> Due.refuses("sign(0, 9)", Due.RANGE, () -> x.sign(0, 9))).signed(":1;");
        refused.is("check()", -1, Counted::check);
    }

    private static void changesNothingOnAFullTape() {
        Made nearlyFull = Made.busy().signed(":1;" + "x".repeat(583));
        nearlyFull.is("sign", 600, x -> x.sign(0, 5));
        nearlyFull.refuses("sign of six bytes where five have room", Due.NO_ROOM, x -> x.sign(0, 6));
        nearlyFull.is("check() of the tape before it is refused", 12, Counted::check);
        Made full = nearlyFull.after(x -> x.sign(0, 5));
        full.refuses("sign of one byte on a full tape", Due.NO_ROOM, x -> x.sign(0, 1));
        full.refuses("sign of eight bytes on a full tape", Due.NO_ROOM, x -> x.sign(0, 8));
    }
}
