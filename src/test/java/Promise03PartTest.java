/** Promise 3: part. */
public final class Promise03PartTest {
    private static final String NONE = "0 -1 0 0 0";

    public static void main(String[] args) {
        Made town = Made.town(7, 12);
        Due.same("the first street", town.part(0), "1 0 0 1 59");
        Due.same("the last street", town.part(11), "1 0 8 12 62");
        Due.same("behind the last street", town.part(12), NONE);
        Due.same("no town of size 12 has it", town.part(19), NONE);
        Due.same("the first further street", town.part(20), "1 0 9 10 46");
        Due.same("a further street of one corner", town.part(21), NONE);
        Due.same("a further street behind it", town.part(22), "1 0 11 12 68");
        Due.same("a further street from a higher corner", town.part(23), "1 0 2 5 95");
        Due.same("the last further street", town.part(25), "1 0 4 6 17");
        Due.same("behind the last further street", town.part(26), NONE);
        Due.same("the first unit", town.part(30), "1 1 6 6 0");
        Due.same("the last unit", town.part(36), "1 1 12 2 0");
        Due.same("behind the last unit", town.part(37), NONE);
        Due.same("the first call", town.part(41), "1 2 6 2 1233");
        Due.same("a burst", town.part(49), "1 2 9 0 859");
        Due.same("the last call", town.part(53), "1 2 4 1 1225");
        Due.same("behind the last call", town.part(54), NONE);
        Due.same("the last part of all", town.part(61), NONE);
        Due.same("the last part of all, of size 20", Made.town(5, 20).part(61), "1 2 16 1 695");
        leftOut();
        unknown();
        Made.busy().onlyAnswers("part(0, 4)", 21, x -> x.part(0, 4));
        Due.end();
    }

    /** "2 to 4: also of one left out" */
    private static void leftOut() {
        Made town = Made.town(7, 12, 0, 20, 30, 53);
        Due.same("a street left out", town.part(0), "0 0 0 1 59");
        Due.same("a further street left out", town.part(20), "0 0 9 10 46");
        Due.same("a unit left out", town.part(30), "0 1 6 6 0");
        Due.same("a call left out", town.part(53), "0 2 4 1 1225");
        Made smaller = town.after(x -> x.draw(0, 0));
        for (int part : new int[] {0, 20, 53}) {
            Due.same("a part of the town before", smaller.part(part), NONE);
        }
    }

    private static void unknown() {
        for (int wrong : new int[] {-1, 62, Integer.MIN_VALUE, Integer.MAX_VALUE}) {
            for (int what = -1; what <= 5; what++) {
                int asked = what;
                Due.refuses("part(" + wrong + ", " + asked + ")", Due.UNKNOWN, () -> new Counted().part(wrong, asked));
            }
            Made.busy().refuses("part(" + wrong + ", 0)", Due.UNKNOWN, x -> x.part(wrong, 0));
        }
        for (int wrong : new int[] {-1, 5, Integer.MIN_VALUE, Integer.MAX_VALUE}) {
            Made.busy().refuses("part(0, " + wrong + ")", Due.UNKNOWN, x -> x.part(0, wrong));
            Made.busy().refuses("part(5, " + wrong + ") of a part that it has not", Due.UNKNOWN, x -> x.part(5, wrong));
        }
    }
}
