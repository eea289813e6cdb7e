/** Promise 4: leave. */
public final class Promise04LeaveTest {
    public static void main(String[] args) {
        for (int part : new int[] {0, 2, 20, 30, 31, 41, 44}) {
            outAndIn(Made.town(9, 3), part);
        }
        for (int part : new int[] {0, 19, 20, 29, 30, 40, 41, 61}) {
            outAndIn(Made.town(5, 20), part);
        }
        Due.same("text", Made.town(9, 3, 2, 30, 42).text(), "s0-1:21;s0-2:78;s1-2:81;u2:3;c2:0@878;c1:2@1061;c2:1@1061;");
        unknown();
        leavesPrintAndTape();
        Due.end();
    }

    private static void outAndIn(Made town, int part) {
        town.refuses("leave(" + part + ", false) of one there", Due.STATE, x -> x.leave(part, false));
        Made out = town.without(part);
        out.is("part(" + part + ", 0) of one left out", 0, x -> x.part(part, 0));
        out.refuses("leave(" + part + ", true) of one left out", Due.STATE, x -> x.leave(part, true));
        Made in = out.after(x -> x.leave(part, false));
        Due.same("taken in again: " + part, in.state(), town.state());
        in.refuses("leave(" + part + ", false) of one taken in", Due.STATE, x -> x.leave(part, false));
    }

    /** "Unknown: the town has it not", whether it is to be left out or to be taken in. */
    private static void unknown() {
        int[] none = {3, 19, 21, 29, 32, 40, 45, 61, 62, -1, Integer.MIN_VALUE, Integer.MAX_VALUE};
        for (int part : none) {
            Made.busy().refuses("leave(" + part + ", true)", Due.UNKNOWN, x -> x.leave(part, true));
            Made.busy().refuses("leave(" + part + ", false)", Due.UNKNOWN, x -> x.leave(part, false));
        }
        // Both ends of this further street are one corner.
        Made.town(7, 12).refuses("leave(21, true)", Due.UNKNOWN, x -> x.leave(21, true));
        Made.town(7, 12).refuses("leave(21, false)", Due.UNKNOWN, x -> x.leave(21, false));
        Made.fresh().refuses("leave(0, true) in a town without streets", Due.UNKNOWN, x -> x.leave(0, true));
        // The town before had it, and the present one has it not.
        Made smaller = Made.town(5, 20, 61).after(x -> x.draw(0, 0));
        smaller.refuses("leave(61, false)", Due.UNKNOWN, x -> x.leave(61, false));
    }

    private static void leavesPrintAndTape() {
        Made left = Made.busy().without(1);
        Due.same("the latest print", left.printed(), "u0:6;c0:2@971;");
        left.signed(":1;").is("check()", -1, Counted::check);
    }
}
