/** Promise 11: sign. */
public final class Promise11SignTest {
    private static void signs(ServiceDrawer x, long bytes, int n, int want) {
        Due.answers("sign(" + bytes + ", " + n + ")", want, () -> x.sign(bytes, n));
    }

    public static void main(String[] args) {
        howMany();
        order();
        range();
        room();
        Due.end();
    }

    private static void howMany() {
        ServiceDrawer x = new ServiceDrawer();
        int all = 0;
        for (int n = 1; n <= 8; n++) {
            all += n;
            signs(x, -1L, n, all);
        }
        x.check();
        signs(x, 0L, 3, 3);
    }

    /** "u0:1;" by its highest byte first; bytes above the lowest n do not count. */
    private static void order() {
        ServiceDrawer x = new ServiceDrawer();
        signs(x, 0x75_30_3A_31_3BL, 5, 5);
        Due.answers("check()", -1, x::check);
        signs(x, 0xFFFFFF_75_30_3A_31_3BL, 5, 5);
        Due.answers("check()", -1, x::check);
        signs(x, 0x75_30L, 2, 2);
        signs(x, 0x3A_31_3BL, 3, 5);
        Due.answers("check()", -1, x::check);
        signs(x, 0x3B_31_3A_30_75L, 5, 5);
        Due.answers("check()", 0, x::check);
        // A byte is 0 .. 255, and eight take the sign's place too.
        signs(x, 0xF5_30_3A_31_3BL, 5, 5);
        Due.answers("check()", 0, x::check);
        signs(x, 0x63_30_3A_30_40_31_32_B0L, 8, 8);
        Due.answers("check()", 7, x::check);
        signs(x, 0xE3_30_3A_30_40_31_32_3BL, 8, 8);
        Due.answers("check()", 0, x::check);
    }

    private static void range() {
        ServiceDrawer x = new ServiceDrawer();
        signs(x, 'x', 1, 1);
        for (int wrong : new int[] {-1, 0, 9, Integer.MIN_VALUE, Integer.MAX_VALUE}) {
            Due.refuses("sign(0, " + wrong + ")", Due.RANGE, () -> x.sign(0, wrong));
        }
        signs(x, 'x', 1, 2);
    }

    private static void room() {
        ServiceDrawer x = new ServiceDrawer();
        for (int i = 1; i <= 74; i++) {
            signs(x, 0, 8, 8 * i);
        }
        signs(x, 0, 3, 595);
        Due.refuses("sign(0, 8)", Due.NO_ROOM, () -> x.sign(0, 8));
        Due.refuses("sign(0, 6)", Due.NO_ROOM, () -> x.sign(0, 6));
        signs(x, 0, 5, 600);
        Due.refuses("sign(0, 1)", Due.NO_ROOM, () -> x.sign(0, 1));
        Due.refuses("sign(0, 9): the range comes first", Due.RANGE, () -> x.sign(0, 9));
        Due.answers("check()", 0, x::check);
        signs(x, 0, 8, 8);
    }
}
