/** Terms: VERDICTS, each at its edge. (Verdict 0 stands in the test of served calls.) */
public final class TermsVerdictsTest {
    private static void holds(String what, int verdict, boolean want, Made town) {
        town.is("verdict " + verdict + ": " + what, want ? 1 : 0, x -> x.holds(verdict) ? 1 : 0);
    }

    public static void main(String[] args) {
        oneMinuteAndOneCorner();
        noUnitOfSkillTwo();
        wayAbove99();
        shortestWay();
        sumAbove300();
        nothingThere();
        Due.end();
    }

    private static void oneMinuteAndOneCorner() {
        holds("one corner, two minutes", 1, false, Made.town(1, 1));
        holds("one minute, two corners", 1, false, Made.town(6, 1));
        holds("one minute, one corner, two skills", 1, true, Made.town(20, 1));
        holds("the first of them left out", 1, false, Made.town(20, 1, 41));
        holds("the second of them left out", 1, false, Made.town(20, 1, 42));
        holds("one call", 1, false, Made.fresh());
        // c1:2@140;c2:0@140;c1:1@140: the first and the last meet.
        holds("not side by side", 1, true, Made.town(14, 2));
        holds("the one between left out", 1, true, Made.town(14, 2, 42));
        holds("the last left out", 1, false, Made.town(14, 2, 43));
        // c1:1@200;c1:2@200;c1:0@200
        holds("three of them, one left out", 1, true, Made.town(215, 2, 41));
        holds("three of them, two left out", 1, false, Made.town(215, 2, 41, 43));
    }

    /** A unit of each skills 1 .. 7: bit 2 is of 4, 5, 6 and 7. */
    private static void noUnitOfSkillTwo() {
        int[] seedOfSkills = {2, 1, 12, 5, 10, 0, 6};
        for (int skills = 1; skills <= 7; skills++) {
            Made town = Made.town(seedOfSkills[skills - 1], 0);
            town.is("skills", skills, x -> x.part(30, 3));
            holds("skills " + skills, 2, skills < 4, town);
            holds("no unit there", 2, true, town.without(30));
        }
        // Unit 0 has skills 4 and unit 1 skills 3.
        holds("one of two", 2, false, Made.town(5, 2));
        holds("the one without it left out", 2, false, Made.town(5, 2, 31));
        holds("the one with it left out", 2, true, Made.town(5, 2, 30));
    }

    /** s0-1:21;s0-2:78;s0-2:81;u2;u2;c2;c1;c1 and s0-1:9;s1-2:91;s0-1:95;u2;u1;c0;c2;c1. */
    private static void wayAbove99() {
        Made below = Made.town(9, 2);
        below.is("the longest way", 99, x -> x.way(0, 1));
        holds("99 metres", 3, false, below);
        holds("102 metres", 3, true, below.without(1));
        Made above = Made.town(97, 2);
        above.is("the longest way", 100, x -> x.way(0, 0));
        holds("100 metres", 3, true, above);
        holds("its unit left out", 3, false, above.without(30));
        holds("its call left out", 3, false, above.without(41));
        holds("another call left out", 3, true, above.without(42));
        holds("those that can't come do not count", 3, false, above.without(1));
        holds("those that can't come, another way", 3, false, above.without(0, 20));
        holds("over the longer one of two streets", 3, true, above.without(0));
    }

    /** s0-1:65;s0-2:89;s1-2:59;u0:2;u0:1;c1:1;c2:0;c0:1: 65 metres, or 148 round the other way. */
    private static void shortestWay() {
        Made town = Made.town(1, 2);
        town.is("the shorter way", 65, x -> x.way(0, 0));
        holds("only the longer way is above 99", 3, false, town);
        town.without(0).is("the longer way", 148, x -> x.way(0, 0));
        holds("the shorter way left out", 3, true, town.without(0));
        // Unit 1 has not the skill of call 0, and its way counts.
        holds("a unit without the skill", 3, true, town.without(0, 30, 42));
    }

    private static void sumAbove300() {
        holds("300 metres", 4, false, Made.town(45, 4));
        holds("301 metres", 4, true, Made.town(145, 4));
        holds("300 metres of size 6", 4, false, Made.town(298, 6));
        holds("301 metres of size 6", 4, true, Made.town(597, 6));
        for (int part = 0; part < 4; part++) {
            holds("street " + part + " left out", 4, false, Made.town(145, 4, part));
        }
        holds("units and calls do not count", 4, true, Made.town(145, 4).withoutAll(30, 61));
        holds("a further street left out", 4, false, Made.town(597, 6).withoutAll(20, 29));
    }

    private static void nothingThere() {
        Due.same("verdicts of nothing", Made.town(5, 20).withoutAll(0, 61).verdicts(), "00100");
        Due.same("verdicts of calls alone", Made.town(5, 20).withoutAll(0, 40).verdicts(), "11100");
        Due.same("verdicts of units alone", Made.town(5, 20).withoutAll(0, 29).withoutAll(41, 61).verdicts(), "00000");
        Due.same("verdicts of streets alone", Made.town(5, 20).withoutAll(30, 61).verdicts(), "00101");
        Due.same("verdicts of all", Made.town(5, 20).verdicts(), "01011");
    }
}
