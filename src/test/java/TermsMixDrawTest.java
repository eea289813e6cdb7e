/** Terms: MIX and DRAW. The texts were worked out apart from the class, with numbers of any length. */
public final class TermsMixDrawTest {
    private static void town(int seed, int size, String text) {
        Due.same("text of " + seed + ", " + size, Made.town(seed, size).text(), text);
    }

    public static void main(String[] args) {
        mixOfZeroAndBeside();
        wrapsAround();
        wrapsByTheNumber();
        lowestAndHighest();
        upToOne();
        Due.end();
    }

    /** The minute of call 0 is draw(9, 0, 1,440): MIX of seed + 589,833. */
    private static void mixOfZeroAndBeside() {
        town(-589833, 0, "u0:6;c0:2@0;");
        town(-589834, 0, "u0:1;c0:0@999;");
        town(-589832, 0, "u0:3;c0:1@1035;");
    }

    /** "in 32 bits": the last seed of which seed + 589,833 does not go round, the first of which it does, the ends. */
    private static void wrapsAround() {
        town(2146893814, 0, "u0:4;c0:0@477;");
        town(2146893815, 0, "u0:6;c0:0@105;");
        town(Integer.MAX_VALUE, 0, "u0:1;c0:0@848;");
        town(Integer.MIN_VALUE, 0, "u0:5;c0:1@1328;");
        town(-1, 0, "u0:3;c0:2@306;");
        town(0, 0, "u0:6;c0:2@971;");
        town(1, 0, "u0:2;c0:1@789;");
        town(Integer.MAX_VALUE, 1, "s0-1:75;u0:1;c1:0@848;c1:2@848;");
        town(-1, 2, "s0-1:75;s1-2:88;s0-1:59;u1:3;u2:7;c0:2@306;c2:2@306;c1:2@306;");
    }

    /** Of call 20 the number is seed + 589,833 + 620: the last one that does not go round, and the first. */
    private static void wrapsByTheNumber() {
        Due.same("call 20 of the last seed", Made.town(2146893194, 20).part(61), "1 2 5 0 477");
        Due.same("call 20 of the first seed", Made.town(2146893195, 20).part(61), "1 2 5 0 105");
        town(2146893195, 20, "s0-1:64;s0-2:60;s0-3:41;s3-4:92;s2-5:12;s1-6:98;s3-7:55;s3-8:69;s6-9:9;s6-10:95;"
            + "s6-11:48;s9-12:65;s0-13:22;s1-14:20;s12-15:95;s13-16:55;s6-17:79;s14-18:72;s18-19:63;s8-20:24;"
            + "s10-17:31;s1-18:83;s8-19:74;s8-20:45;s4-5:58;s5-13:5;s3-20:28;s6-14:29;s3-17:97;u12:5;u1:5;u4:4;u16:6;"
            + "u2:1;u14:1;u0:7;u10:7;u12:6;u14:4;u15:6;c4:0@96;c9:2@96;c8:1@267;c6:0@1137;c1:2@903;c1:1@966;"
            + "c12:1@393;c10:1@470;c9:2@1172;c10:1@765;c19:0@132;c16:0@132;c14:1@639;c10:2@228;c13:0@780;c18:0@414;"
            + "c1:0@458;c10:0@1287;c8:2@202;c13:1@1019;c5:0@105;");
    }

    /** The lowest and the highest of everything that is drawn. */
    private static void lowestAndHighest() {
        town(229, 1, "s0-1:1;u0:3;c1:2@95;c1:1@664;");
        town(68, 1, "s0-1:99;u0:6;c1:0@286;c0:0@286;");
        town(179, 2, "s0-1:86;s1-2:26;s0-2:1;u1:4;u0:2;c2:1@550;c0:0@668;c0:0@1253;");
        town(96, 2, "s0-1:28;s1-2:74;s0-1:99;u1:1;u1:7;c0:0@950;c0:1@208;c2:1@1118;");
        town(3068, 0, "u0:1;c0:0@0;");
        town(890, 0, "u0:4;c0:0@1439;");
        town(133, 0, "u0:7;c0:2@1000;");
        Due.same("street of corner 20 to corner 0", Made.town(20, 20).part(19), "1 0 0 20 51");
        Due.same("street of corner 20 to corner 19", Made.town(14, 20).part(19), "1 0 19 20 76");
        Due.same("further street of corners 0 and 20", Made.town(106, 20).part(29), "1 0 0 20 99");
        Due.same("unit at corner 0", Made.town(7, 20).part(40), "1 1 0 1 0");
        Due.same("unit at corner 20", Made.town(22, 20).part(40), "1 1 20 2 0");
        Due.same("call at corner 0", Made.town(2, 20).part(61), "1 2 0 2 1126");
        Due.same("call at corner 20", Made.town(21, 20).part(61), "1 2 20 2 433");
    }

    /** "up to m (1 or more)": of m = 1 there is 0 alone. */
    private static void upToOne() {
        for (int seed : new int[] {0, 1, -1, 7, 12345, -98765, Integer.MAX_VALUE, Integer.MIN_VALUE}) {
            Made town = Made.town(seed, 1);
            town.is("lower corner of street 0 of seed " + seed, 0, x -> x.part(0, 2));
            town.is("higher corner of street 0 of seed " + seed, 1, x -> x.part(0, 3));
            Made corner = Made.town(seed, 0);
            corner.is("unit's corner of seed " + seed, 0, x -> x.part(30, 2));
            corner.is("call's corner of seed " + seed, 0, x -> x.part(41, 2));
        }
    }
}
