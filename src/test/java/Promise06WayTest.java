/** Promise 6: way. */
public final class Promise06WayTest {
    private static final ServiceDrawer X = new ServiceDrawer();

    private static void way(int unit, int call, int want) {
        Due.answers("way(" + unit + ", " + call + ")", want, () -> X.way(unit, call));
    }

    private static void refuses(int unit, int call) {
        Due.refuses("way(" + unit + ", " + call + ")", Due.UNKNOWN, () -> X.way(unit, call));
    }

    public static void main(String[] args) {
        way(0, 0, 0);
        refuses(1, 0);
        refuses(0, 1);
        // s0-1:21 s0-2:78 s2-3:35 s1-2:81, units at 2, 2, calls at 2, 3, 1, 2
        X.draw(9, 3);
        way(0, 0, 0);
        way(0, 1, 35);
        way(0, 2, 81);
        way(1, 2, 81);
        X.leave(20, true);
        way(1, 2, 99);
        X.leave(0, true);
        way(1, 2, -1);
        way(1, 3, 0);
        X.leave(0, false);
        X.leave(31, true);
        way(1, 2, -1);
        way(1, 3, -1);
        way(0, 2, 99);
        X.leave(43, true);
        way(0, 2, -1);
        X.leave(43, false);
        way(0, 2, 99);
        refuses(2, 0);
        refuses(0, 4);
        for (int wrong : new int[] {-1, 62, Integer.MIN_VALUE, Integer.MAX_VALUE}) {
            refuses(wrong, 0);
            refuses(0, wrong);
        }
        // Unit 0 has skill 2 alone and call 5 wants skill 1: a way needs no skill.
        X.draw(5, 20);
        way(0, 5, 100);
        way(10, 20, 0);
        refuses(11, 0);
        refuses(0, 21);
        Due.end();
    }
}
