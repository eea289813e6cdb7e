/** Promise 3: part. */
public final class Promise03PartTest {
    private static final ServiceDrawer X = new ServiceDrawer();

    private static void is(int part, int there, int kind, int second, int third, int fourth) {
        int[] want = {there, kind, second, third, fourth};
        for (int what = 0; what < 5; what++) {
            int asked = what;
            Due.answers("part(" + part + ", " + what + ")", want[what], () -> X.part(part, asked));
        }
    }

    public static void main(String[] args) {
        X.draw(7, 12);
        is(0, 1, 0, 0, 1, 59);
        is(11, 1, 0, 8, 12, 62);
        is(12, 0, -1, 0, 0, 0);
        is(19, 0, -1, 0, 0, 0);
        is(20, 1, 0, 9, 10, 46);
        is(21, 0, -1, 0, 0, 0);
        is(22, 1, 0, 11, 12, 68);
        is(25, 1, 0, 4, 6, 17);
        is(26, 0, -1, 0, 0, 0);
        is(30, 1, 1, 6, 6, 0);
        is(36, 1, 1, 12, 2, 0);
        is(37, 0, -1, 0, 0, 0);
        is(40, 0, -1, 0, 0, 0);
        is(41, 1, 2, 6, 2, 1233);
        is(49, 1, 2, 9, 0, 859);
        is(53, 1, 2, 4, 1, 1225);
        is(54, 0, -1, 0, 0, 0);
        X.leave(0, true);
        X.leave(30, true);
        X.leave(53, true);
        is(0, 0, 0, 0, 1, 59);
        is(30, 0, 1, 6, 6, 0);
        is(53, 0, 2, 4, 1, 1225);
        X.draw(0, 0);
        is(0, 0, -1, 0, 0, 0);
        is(53, 0, -1, 0, 0, 0);
        X.draw(5, 20);
        is(61, 1, 2, 16, 1, 695);
        is(29, 1, 0, 8, 17, 70);
        for (int wrong : new int[] {-1, 62, Integer.MIN_VALUE, Integer.MAX_VALUE}) {
            Due.refuses("part " + wrong, Due.UNKNOWN, () -> X.part(wrong, 0));
        }
        for (int wrong : new int[] {-1, 5, Integer.MIN_VALUE, Integer.MAX_VALUE}) {
            Due.refuses("what " + wrong, Due.UNKNOWN, () -> X.part(0, wrong));
            Due.refuses("what of a part the town has not " + wrong, Due.UNKNOWN, () -> new ServiceDrawer().part(5, wrong));
        }
        Due.end();
    }
}
