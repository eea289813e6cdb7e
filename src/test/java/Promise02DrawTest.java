/** Promise 2: draw. The texts were worked out apart from the class. */
public final class Promise02DrawTest {
    private static final String TOWN_5_20 = "s0-1:49;s1-2:21;s0-3:72;s1-4:22;s2-5:10;s5-6:25;s1-7:14;s3-8:35;s6-9:50;"
        + "s9-10:12;s4-11:90;s9-12:15;s7-13:37;s1-14:18;s7-15:54;s8-16:27;s14-17:57;s2-18:40;s3-19:68;s17-20:66;"
        + "s16-17:18;s12-19:56;s0-10:21;s15-17:55;s5-19:35;s11-13:44;s5-20:90;s7-10:65;s0-3:37;s8-17:70;u0:4;u16:3;"
        + "u11:7;u20:3;u17:6;u10:5;u10:5;u12:2;u5:6;u7:2;u16:2;c13:2@1122;c7:0@1400;c10:1@1047;c2:2@1172;c4:2@1098;"
        + "c13:1@1098;c15:1@1098;c9:1@1098;c18:2@975;c12:2@1419;c19:2@1419;c6:0@798;c12:1@696;c12:1@696;c3:1@1335;"
        + "c0:2@833;c5:2@833;c9:0@979;c15:1@396;c7:0@1301;c16:1@695;";
    private static final String TOWN_7_12 = "s0-1:59;s0-2:59;s1-3:33;s3-4:72;s2-5:59;s1-6:96;s1-7:8;s0-8:14;s2-9:91;"
        + "s8-10:40;s4-11:9;s8-12:62;s9-10:46;s11-12:68;s2-5:95;s5-7:27;s4-6:17;u6:6;u4:1;u0:1;u5:2;u8:4;u10:2;u12:2;"
        + "c6:2@1233;c9:2@466;c4:2@308;c5:0@288;c8:2@1258;c1:1@623;c12:2@1014;c2:2@859;c9:0@859;c6:2@488;c10:1@659;"
        + "c4:1@1225;c4:1@1225;";

    private static void draws(int seed, int size, int parts, String text) {
        Due.answers("draw(" + seed + ", " + size + ")", parts, () -> new Counted().draw(seed, size));
        Due.same("text of " + seed + ", " + size, Made.town(seed, size).text(), text);
    }

    public static void main(String[] args) {
        draws(0, 0, 2, "u0:6;c0:2@971;");
        draws(5, 20, 62, TOWN_5_20);
        draws(7, 12, 37, TOWN_7_12);
        draws(Integer.MAX_VALUE, 1, 4, "s0-1:75;u0:1;c1:0@848;c1:2@848;");
        draws(-1, 2, 8, "s0-1:75;s1-2:88;s0-1:59;u1:3;u2:7;c0:2@306;c2:2@306;c1:2@306;");
        // How many parts it has: further streets of one corner are none.
        Due.answers("draw(25, 20)", 59, () -> new Counted().draw(25, 20));
        Due.answers("draw(2945, 20)", 57, () -> new Counted().draw(2945, 20));
        Due.answers("draw(MIN, 20)", 62, () -> new Counted().draw(Integer.MIN_VALUE, 20));
        for (int size : Made.WRONG_SIZES) {
            Made.busy().refuses("draw(1, " + size + ")", Due.RANGE, x -> x.draw(1, size));
            Made.town(5, 20).refuses("draw(1, " + size + ") in a large town", Due.RANGE, x -> x.draw(1, size));
        }
        anotherTownLeavesNothing();
        leavesPrintAndTape();
        Due.end();
    }

    /** From large to small and back: nothing of the town before, and nothing left out. */
    private static void anotherTownLeavesNothing() {
        Made small = Made.town(5, 20, 0, 29, 30, 61).after(x -> x.draw(0, 0));
        Due.same("small behind large", small.state(), Made.town(0, 0).state());
        Made large = small.without(30, 41).after(x -> x.draw(5, 20));
        Due.same("large behind small", large.state(), Made.town(5, 20).state());
        Due.answers("draw(5, 20) again counts what it has, not what is there", 62,
            () -> Made.town(5, 20, 0, 61).get().draw(5, 20));
    }

    private static void leavesPrintAndTape() {
        Made drawn = Made.busy().after(x -> x.draw(5, 20));
        Due.same("the latest print", drawn.printed(), "u0:6;c0:2@971;");
        drawn.signed(":1;").is("check()", -1, Counted::check);
        drawn.is("check() of what was begun", 9, Counted::check);
    }
}
