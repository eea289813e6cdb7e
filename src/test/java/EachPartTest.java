/**
 * What is said of units, calls and streets is said of each one of them, from the first to the last that a town can have:
 * each stands alone here, or with one other.
 */
public final class EachPartTest {
    private static final int[] SEEDS = {5, 405, 1460, -1};

    private static boolean hasSkill(Counted x, int unit, int skill) {
        return (x.part(30 + unit, 3) >> skill & 1) == 1;
    }

    private static void holds(String of, int verdict, boolean want, Made town) {
        town.is("verdict " + verdict + " of " + of, want ? 1 : 0, x -> x.holds(verdict) ? 1 : 0);
    }

    public static void main(String[] args) {
        for (int seed : SEEDS) {
            Made town = Made.town(seed, 20);
            for (int unit = 0; unit <= 10; unit++) {
                unitAlone(town, unit);
                for (int call = 0; call <= 20; call++) {
                    unitAndCall(town, unit, call);
                }
            }
        }
        for (int one = 0; one <= 20; one++) {
            for (int other = one + 1; other <= 20; other++) {
                twoCalls(Made.town(405, 20), one, other);
            }
        }
        callsThatMeet();
        for (int street = 0; street <= 29; street++) {
            streetAlone(street);
        }
        Due.end();
    }

    private static void unitAlone(Made town, int unit) {
        Made alone = town.only(30, 40, 30 + unit);
        alone.is("units there", 1, x -> x.count(2));
        holds("unit " + unit + " alone", 2, !hasSkill(town.get(), unit, 2), alone);
        holds("no unit, after unit " + unit, 2, true, alone.without(30 + unit));
    }

    /** Whether it is served, and whether some way is above 99 metres, is told by this one way. */
    private static void unitAndCall(Made town, int unit, int call) {
        String of = "unit " + unit + " and call " + call;
        Made both = town.only(30, 61, 30 + unit, 41 + call);
        int way = town.get().way(unit, call);
        both.is("way of " + of, way, x -> x.way(unit, call));
        both.is("calls there", 1, x -> x.count(3));
        holds(of, 3, way > 99, both);
        Counted x = town.get();
        boolean served = hasSkill(x, unit, x.part(41 + call, 3));
        both.is("served: " + of, served ? 1 : 0, y -> y.count(4));
        holds(of, 0, !served, both);
        Made apart = both.withoutAll(0, 29);
        boolean near = x.part(30 + unit, 2) == x.part(41 + call, 2);
        apart.is("way without streets, " + of, near ? 0 : -1, y -> y.way(unit, call));
        apart.is("served without streets: " + of, near && served ? 1 : 0, y -> y.count(4));
        holds(of + " without streets", 3, false, apart);
    }

    private static void twoCalls(Made town, int one, int other) {
        Made both = town.only(41, 61, 41 + one, 41 + other);
        Counted x = town.get();
        boolean minute = x.part(41 + one, 4) == x.part(41 + other, 4);
        boolean corner = x.part(41 + one, 2) == x.part(41 + other, 2);
        String of = "calls " + one + " and " + other;
        both.is("bursts of " + of, minute ? 1 : 0, y -> y.count(5));
        holds(of, 1, minute && corner, both);
    }

    /** The first two calls of 93, the last two of 23, and the first and the last of 11770. */
    private static void callsThatMeet() {
        holds("calls 0 and 1 of 93", 1, true, Made.town(93, 20).only(41, 61, 41, 42));
        holds("calls 19 and 20 of 23", 1, true, Made.town(23, 20).only(41, 61, 60, 61));
        holds("calls 0 and 20 of 11770", 1, true, Made.town(11770, 20).only(41, 61, 41, 61));
        Made.town(11770, 20).only(41, 61, 41, 61).is("bursts of 11770", 1, x -> x.count(5));
    }

    /** In some town a unit stands at one end of the street and a call that it can serve at the other. */
    private static void streetAlone(int street) {
        for (int seed = 0; seed < 300; seed++) {
            Made town = Made.town(seed, 20);
            for (int unit = 0; unit <= 10; unit++) {
                int call = servedOver(town.get(), street, unit);
                if (call >= 0) {
                    overStreet(town, street, unit, call);
                    return;
                }
            }
        }
        Due.same("a town for street " + street, "none", "one");
    }

    private static int servedOver(Counted x, int street, int unit) {
        int lower = x.part(street, 2);
        int higher = x.part(street, 3);
        int from = x.part(30 + unit, 2);
        boolean atItsEnd = x.part(street, 1) == 0 && (from == lower || from == higher);
        for (int call = 0; call <= 20 && atItsEnd; call++) {
            if (x.part(41 + call, 2) == lower + higher - from && hasSkill(x, unit, x.part(41 + call, 3))) {
                return call;
            }
        }
        return -1;
    }

    private static void overStreet(Made town, int street, int unit, int call) {
        String of = "street " + street + " alone";
        Made alone = town.only(0, 61, street, 30 + unit, 41 + call);
        int metres = town.get().part(street, 4);
        alone.is("way over " + of, metres, x -> x.way(unit, call));
        alone.is("served over " + of, 1, x -> x.count(4));
        alone.is("streets there", 1, x -> x.count(1));
        alone.without(street).is("way without " + of, -1, x -> x.way(unit, call));
        alone.without(street).is("served without " + of, 0, x -> x.count(4));
    }
}
