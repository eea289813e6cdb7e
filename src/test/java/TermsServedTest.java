/** Terms: A CALL IS SERVED. */
public final class TermsServedTest {
    private static void served(String what, int many, boolean allAre, Made town) {
        town.is("served: " + what, many, x -> x.count(4));
        town.is("some call is not served: " + what, allAre ? 0 : 1, x -> x.holds(0) ? 1 : 0);
    }

    public static void main(String[] args) {
        ways();
        own();
        units();
        calls();
        skills();
        Due.end();
    }

    /** "over streets that are there (both ways": s0-1:41;u0:7;c1:2;c1:1 and s0-1:11;u1:7;c0:1;c0:1. */
    private static void ways() {
        served("from the lower corner", 2, true, Made.town(25, 1));
        served("from the lower corner, the street left out", 0, false, Made.town(25, 1, 0));
        served("from the higher corner", 2, true, Made.town(95, 1));
        served("from the higher corner, the street left out", 0, false, Made.town(95, 1, 0));
        // s0-1:75;s1-2:88;s0-1:59;u1:3;u2:7;c0:2;c2:2;c1:2: unit 1 alone has skill 2.
        Made far = Made.town(-1, 2);
        served("over two streets", 3, true, far);
        served("over one of two", 3, true, far.without(0));
        served("over the other of two", 3, true, far.without(20));
        served("over none of two", 2, false, far.without(0, 20));
        served("no street to the unit", 1, false, far.without(1));
        // Each over the longest way of a million seeds, of 16, 12 and 13 streets.
        served("over 16 streets", 1, true, Made.town(79412, 20).only(20, 61, 40, 51));
        served("over 12 streets to lower corners", 1, true, Made.town(884747, 20).only(20, 61, 30, 47));
        served("over 13 streets to higher corners", 1, true, Made.town(884747, 20).only(20, 61, 34, 42));
        served("over 12 of 13 streets", 0, false, Made.town(884747, 20).only(20, 61, 34, 42).without(0));
    }

    /** "no street is needed for its own": s0-1:71;u0:7;c0:2;c1:1. */
    private static void own() {
        served("one at its own corner", 2, true, Made.town(21, 1));
        served("its own corner alone", 1, false, Made.town(21, 1, 0));
        served("its own corner, the other call left out", 1, true, Made.town(21, 1, 0, 42));
        served("a town of one corner", 1, true, Made.fresh());
        served("a large town without a street", 5, false, Made.town(5, 20).withoutAll(0, 29));
    }

    private static void units() {
        served("the unit left out", 0, false, Made.town(25, 1, 30));
        served("no unit and no call", 0, true, Made.town(25, 1, 30, 41, 42));
        served("no unit at the call's own corner", 0, false, Made.town(0, 0, 30));
    }

    /** "when it is there": a call that is left out is no call that is not served. */
    private static void calls() {
        served("a call left out", 1, true, Made.town(25, 1, 41));
        served("all calls left out", 0, true, Made.town(25, 1, 41, 42));
        served("a call left out that could not be served", 0, true, Made.town(25, 1, 0, 41, 42));
        served("as the shared test asks", 20, true, Made.town(5, 20, 41));
    }

    /** s0-1:49;s1-2:21;s1-2:18;u0:4;u1:3;c1:2;c1:0;c1:1: one has the skill, and another one can come. */
    private static void skills() {
        served("both units can come", 3, true, Made.town(5, 2));
        served("the one with the skill can't come, the other has it not", 2, false, Made.town(5, 2, 0));
        served("skill 2 alone", 1, false, Made.town(5, 2, 31));
        served("skills 0 and 1 alone", 2, false, Made.town(5, 2, 30));
        served("the call of skill 2 left out", 2, true, Made.town(5, 2, 30, 41));
    }
}
