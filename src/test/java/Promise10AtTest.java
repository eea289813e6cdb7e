/** Promise 10: at. */
public final class Promise10AtTest {
    private static void at(Made made, int i, int want) {
        made.is("at(" + i + ")", want, x -> x.at(i));
    }

    public static void main(String[] args) {
        withoutPrint();
        behindIt();
        latest();
        for (int i : new int[] {-1, -2, -600, Integer.MIN_VALUE}) {
            Made.fresh().refuses("at(" + i + ") without a print", Due.RANGE, x -> x.at(i));
            Made.busy().refuses("at(" + i + ")", Due.RANGE, x -> x.at(i));
        }
        Made.busy().onlyAnswers("at(0)", 'u', x -> x.at(0));
        Made.busy().onlyAnswers("at(14)", -1, x -> x.at(14));
        Due.end();
    }

    private static void withoutPrint() {
        for (int i : new int[] {0, 1, 13, 599, 600, Integer.MAX_VALUE}) {
            at(Made.fresh(), i, -1);
            at(Made.town(5, 20), i, -1);
        }
    }

    private static void behindIt() {
        Made printed = Made.fresh().after(Counted::print);
        at(printed, 0, 'u');
        at(printed, 12, '1');
        at(printed, 13, ';');
        for (int i : new int[] {14, 15, 599, 600, 601, Integer.MAX_VALUE}) {
            at(printed, i, -1);
        }
        Made large = Made.town(5, 20).after(Counted::print);
        at(large, 0, 's');
        at(large, 300, ';');
        at(large, 540, ';');
        at(large, 541, -1);
        Made none = Made.town(0, 0, 30, 41).after(Counted::print);
        at(none, 0, -1);
    }

    /** "of the latest print": it stays until the next one, and nothing of a longer one before it is left. */
    private static void latest() {
        Made printed = Made.fresh().after(Counted::print);
        String text = "u0:6;c0:2@971;";
        Due.same("after draw", printed.after(x -> x.draw(5, 20)).printed(), text);
        Due.same("after leave", printed.without(30).printed(), text);
        Due.same("after shrink", printed.after(x -> x.draw(11, 4)).after(x -> x.shrink(2)).printed(), text);
        Due.same("after find", printed.after(x -> x.find(1, 1, 20, 50)).printed(), text);
        Due.same("after sign", printed.signed("u1:1;c").printed(), text);
        Due.same("after check", printed.signed("u1:1;c").after(Counted::check).printed(), text);
        Made shorter = Made.town(5, 20).after(Counted::print).after(x -> x.draw(0, 0)).after(Counted::print);
        at(shorter, 13, ';');
        at(shorter, 14, -1);
        at(shorter, 540, -1);
        Made none = shorter.without(30, 41).after(Counted::print);
        at(none, 0, -1);
    }
}
