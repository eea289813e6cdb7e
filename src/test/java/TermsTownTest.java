/** Terms: TOWN and SIZE. Which further streets are left out was worked out apart from the class. */
public final class TermsTownTest {
    /** Of seed 5 and each size: how many parts. */
    private static final int[] PARTS_OF_SEED_5 = {
        2, 4, 8, 10, 14, 16, 19, 22, 26, 27, 32, 34, 37, 39, 44, 46, 49, 51, 55, 57, 62
    };

    public static void main(String[] args) {
        for (int size = 0; size <= 20; size++) {
            hasWhatItsSizeAsks(size);
        }
        halvesAreWithoutRest();
        oneCornerIsLeftOut();
        numbersOfTheOthersDoNotChange();
        bursts();
        Due.end();
    }

    private static void hasWhatItsSizeAsks(int size) {
        Made town = Made.town(5, size);
        Due.answers("draw(5, " + size + ")", PARTS_OF_SEED_5[size], () -> new Counted().draw(5, size));
        town.is("corners of size " + size, 1 + size, x -> x.count(0));
        town.is("units of size " + size, 1 + size / 2, x -> x.count(2));
        town.is("calls of size " + size, 1 + size, x -> x.count(3));
        town.is("streets of size " + size, PARTS_OF_SEED_5[size] - 2 - size - size / 2, x -> x.count(1));
        kinds(town, 0, size, 20, 0);
        kinds(town, 30, 1 + size / 2, 11, 1);
        kinds(town, 41, 1 + size, 21, 2);
        for (int part = 20 + size / 2; part <= 29; part++) {
            Due.same("further street " + part + " of size " + size, town.part(part), "0 -1 0 0 0");
        }
    }

    /** From one number on there are so many parts of a kind, and behind them none. */
    private static void kinds(Made town, int from, int many, int most, int kind) {
        Counted x = town.get();
        for (int i = 0; i < most; i++) {
            int part = from + i;
            Due.answers("kind of part " + part, i < many ? kind : -1, () -> x.part(part, 1));
            Due.answers("is there: part " + part, i < many ? 1 : 0, () -> x.part(part, 0));
        }
    }

    /** "size / 2": of 1 none, of 2 and 3 one, of 19 nine, of 20 ten. */
    private static void halvesAreWithoutRest() {
        int[][] seedSizeMany = {{0, 0, 0}, {0, 1, 0}, {1, 2, 1}, {0, 3, 1}, {1, 19, 9}, {0, 20, 10}};
        for (int[] row : seedSizeMany) {
            Made town = Made.town(row[0], row[1]);
            town.is("streets of size " + row[1], row[1] + row[2], x -> x.count(1));
            town.is("units of size " + row[1], 1 + row[2], x -> x.count(2));
        }
    }

    /** "when both are one corner it is left out": the only one, the first, the last, both. */
    private static void oneCornerIsLeftOut() {
        Due.same("0, 2", Made.town(0, 2).text(), "s0-1:10;s1-2:33;u1:6;u0:5;c2:2@971;c1:0@1309;c0:0@985;");
        Due.answers("draw(0, 2)", 7, () -> new Counted().draw(0, 2));
        Due.same("the first", Made.town(9, 4).part(20), "0 -1 0 0 0");
        Due.same("behind the first", Made.town(9, 4).part(21), "1 0 0 4 47");
        Due.same("before the last", Made.town(1, 4).part(20), "1 0 2 4 59");
        Due.same("the last", Made.town(1, 4).part(21), "0 -1 0 0 0");
        Due.answers("draw(25, 4) without both", 12, () -> new Counted().draw(25, 4));
        Due.same("without both", Made.town(25, 4).counts(), "5 4 3 5 5 1");
        Made.town(0, 2).refuses("leave(20, true)", Due.UNKNOWN, x -> x.leave(20, true));
        Made.town(0, 2).refuses("leave(20, false)", Due.UNKNOWN, x -> x.leave(20, false));
    }

    private static void numbersOfTheOthersDoNotChange() {
        Made town = Made.town(2945, 20);
        Due.answers("draw(2945, 20)", 57, () -> new Counted().draw(2945, 20));
        String[] further = {"0 -1 0 0 0", "0 -1 0 0 0", "0 -1 0 0 0", "1 0 7 8 35", "0 -1 0 0 0",
            "1 0 14 19 6", "1 0 10 17 3", "1 0 12 15 7", "1 0 10 14 43", "0 -1 0 0 0"};
        for (int j = 0; j < 10; j++) {
            Due.same("further street " + j, town.part(20 + j), further[j]);
        }
        Due.same("unit 0", town.part(30), "1 1 2 3 0");
        Due.same("call 20", town.part(61), "1 2 2 0 662");
    }

    private static void bursts() {
        // draw(8, 0, 3) is 0 of these, but no call is before call 0.
        Due.same("call 0 of 9", Made.town(9, 0).part(41), "1 2 0 0 878");
        Due.same("call 0 of 12", Made.town(12, 0).part(41), "1 2 0 2 338");
        // draw(8, 1, 3) is 0, 1, 2.
        Due.same("0: a burst", Made.town(6, 1).text(), "s0-1:29;u1:7;c1:1@271;c0:2@271;");
        Due.same("1: none", Made.town(0, 1).text(), "s0-1:10;u1:6;c1:2@971;c0:0@1309;");
        Due.same("2: none", Made.town(4, 1).text(), "s0-1:35;u1:2;c1:1@471;c0:2@684;");
        // A burst behind a burst has its minute too.
        Made town = Made.town(405, 20);
        for (int call = 2; call <= 10; call++) {
            int part = 41 + call;
            town.is("minute of call " + call, 1126, x -> x.part(part, 4));
        }
        town.is("minute of call 1", 1354, x -> x.part(42, 4));
        town.is("minute of call 11", 626, x -> x.part(52, 4));
        // A minute is that of the call before it also when this is left out.
        Due.same("left out", Made.town(6, 1, 41).text(), "s0-1:29;u1:7;c0:2@271;");
    }
}
