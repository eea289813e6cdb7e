/** Promise 10: at. */
public final class Promise10AtTest {
    private static final ServiceDrawer X = new ServiceDrawer();

    private static void at(int i, int want) {
        Due.answers("at(" + i + ")", want, () -> X.at(i));
    }

    private static void refusesBelow() {
        for (int wrong : new int[] {-1, -2, Integer.MIN_VALUE}) {
            Due.refuses("at(" + wrong + ")", Due.RANGE, () -> X.at(wrong));
        }
    }

    public static void main(String[] args) {
        at(0, -1);
        at(599, -1);
        at(Integer.MAX_VALUE, -1);
        refusesBelow();
        X.print();
        at(0, 'u');
        at(12, '1');
        at(13, ';');
        at(14, -1);
        at(600, -1);
        at(Integer.MAX_VALUE, -1);
        refusesBelow();
        // The latest print stays, whatever becomes of the town.
        X.leave(30, true);
        at(0, 'u');
        X.draw(5, 20);
        at(13, ';');
        at(14, -1);
        X.print();
        at(14, '1');
        at(540, ';');
        at(541, -1);
        at(599, -1);
        // A shorter print leaves nothing of a longer one.
        X.draw(0, 0);
        X.print();
        at(13, ';');
        at(14, -1);
        at(540, -1);
        X.leave(30, true);
        X.leave(41, true);
        X.print();
        at(0, -1);
        Due.end();
    }
}
