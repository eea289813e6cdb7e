/** Promise 6: way. */
public final class Promise06WayTest {
    private static void way(Made town, int unit, int call, int want) {
        town.is("way(" + unit + ", " + call + ")", want, x -> x.way(unit, call));
    }

    private static void refuses(Made town, int unit, int call) {
        town.refuses("way(" + unit + ", " + call + ")", Due.UNKNOWN, x -> x.way(unit, call));
    }

    public static void main(String[] args) {
        ways();
        overManyStreets();
        cantCome();
        oneOfBothIsLeftOut();
        needsNoSkill();
        notSoMany();
        Made.busy().onlyAnswers("way(0, 1)", 35, x -> x.way(0, 1));
        Due.end();
    }

    /** s0-1:21 s0-2:78 s2-3:35 s1-2:81, units at 2, 2, calls at 2, 3, 1, 2 */
    private static void ways() {
        Made town = Made.town(9, 3);
        way(town, 0, 0, 0);
        way(town, 0, 1, 35);
        way(town, 0, 2, 81);
        way(town, 1, 2, 81);
        way(town, 1, 3, 0);
        way(town.without(20), 1, 2, 99);
        way(town.without(0), 1, 2, 81);
        // Both ways: from corner 0 to 1 and from corner 1 to 0.
        way(Made.town(25, 1), 0, 0, 41);
        way(Made.town(95, 1), 0, 0, 11);
        // The shorter one of two streets between two corners, whichever was drawn first.
        way(Made.town(-1, 2), 0, 0, 59);
        way(Made.town(-1, 2, 20), 0, 0, 75);
        way(Made.town(97, 2), 1, 0, 9);
        way(Made.town(97, 2, 0), 1, 0, 95);
        way(Made.town(5, 20), 10, 20, 0);
    }

    /** Over 16, 12 and 13 streets, to lower corners and to higher ones: the longest of a million seeds. */
    private static void overManyStreets() {
        way(Made.town(79412, 20).withoutAll(20, 29), 10, 10, 795);
        Made far = Made.town(884747, 20).withoutAll(20, 29);
        way(far, 0, 6, 624);
        way(far, 4, 1, 688);
        way(far.without(0), 4, 1, -1);
    }

    private static void cantCome() {
        Made town = Made.town(9, 3, 0, 20);
        way(town, 1, 2, -1);
        way(town, 1, 3, 0);
        way(town, 1, 1, 35);
        Made without = Made.town(5, 20).withoutAll(0, 29);
        way(without, 0, 0, -1);
        way(without, 10, 20, 0);
    }

    private static void oneOfBothIsLeftOut() {
        Made town = Made.town(9, 3);
        way(town.without(31), 1, 2, -1);
        way(town.without(31), 1, 3, -1);
        way(town.without(31), 0, 2, 81);
        way(town.without(43), 0, 2, -1);
        way(town.without(43), 0, 1, 35);
        way(town.without(31, 44), 1, 3, -1);
        way(town.without(43).after(x -> x.leave(43, false)), 0, 2, 81);
        way(Made.town(0, 0, 30), 0, 0, -1);
        way(Made.town(0, 0, 41), 0, 0, -1);
    }

    /** Unit 0 has skill 2 alone, and call 5 wants skill 1; the answer is the shared test's. */
    private static void needsNoSkill() {
        way(Made.town(5, 20), 0, 5, 100);
        way(Made.town(5, 20, 0), 0, 5, 123);
    }

    /** "numbers of their own", "Unknown: the town has not so many": left out ones count among them. */
    private static void notSoMany() {
        int[][] seedSizeUnitsCalls = {{0, 0, 1, 1}, {25, 1, 1, 2}, {-1, 2, 2, 3}, {9, 3, 2, 4}, {5, 19, 10, 20},
            {5, 20, 11, 21}};
        for (int[] row : seedSizeUnitsCalls) {
            Made town = Made.town(row[0], row[1]);
            Made less = town.without(30 + row[2] - 1, 41 + row[3] - 1);
            way(less, row[2] - 1, row[3] - 1, -1);
            refuses(town, row[2], 0);
            refuses(town, 0, row[3]);
            refuses(less, row[2], row[3]);
            for (int wrong : new int[] {-1, 30, 41, 61, 62, Integer.MIN_VALUE, Integer.MAX_VALUE}) {
                refuses(town, wrong, 0);
                refuses(town, 0, wrong);
            }
        }
        refuses(Made.town(5, 20).after(x -> x.draw(0, 0)), 1, 0);
    }
}
