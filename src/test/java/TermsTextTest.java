/** Terms: THE TEXT of a town. */
public final class TermsTextTest {
    public static void main(String[] args) {
        eachKind();
        lowerCornerFirst();
        withoutZeroInFront();
        byNumbers();
        shortestAndLongest();
        isATownsText();
        Due.end();
    }

    private static void eachKind() {
        Made town = Made.town(9, 3);
        Due.same("a street", town.withoutAll(1, 61).text(), "s0-1:21;");
        Due.same("a further street", town.withoutAll(0, 19).withoutAll(30, 61).text(), "s1-2:81;");
        Due.same("a unit", town.withoutAll(0, 30).withoutAll(41, 61).text(), "u2:3;");
        Due.same("a call", town.withoutAll(0, 43).text(), "c2:1@1061;");
        Due.same("nothing", town.withoutAll(0, 61).text(), "");
    }

    /** Streets from corner i + 1 go to a lower one; the further street of -1, 2 is drawn from corner 1 to corner 0. */
    private static void lowerCornerFirst() {
        Counted x = Made.town(405, 20).get();
        for (int part = 0; part <= 29; part++) {
            int street = part;
            Due.same("the lower corner of street " + street, x.part(street, 2) < x.part(street, 3) ? "first" : "not first",
                "first");
        }
        Due.same("text", Made.town(-1, 2).withoutAll(30, 61).text(), "s0-1:75;s1-2:88;s0-1:59;");
    }

    /** A number of each length, the lowest and the highest one of it. */
    private static void withoutZeroInFront() {
        int[][] seedAndMinute = {{3068, 0}, {2052, 1}, {49, 9}, {2159, 10}, {1272, 99}, {3427, 100}, {566, 999},
            {133, 1000}, {7798, 1438}, {890, 1439}};
        for (int[] row : seedAndMinute) {
            Made town = Made.town(row[0], 0);
            town.is("minute of seed " + row[0], row[1], x -> x.part(41, 4));
            String text = town.text();
            Due.same("minute in the text", text.substring(text.indexOf('@')), "@" + row[1] + ";");
        }
    }

    /** Streets, units, calls, each by their numbers, and of what is left out nothing. */
    private static void byNumbers() {
        Made town = Made.town(9, 3);
        Due.same("all", town.text(),
            "s0-1:21;s0-2:78;s2-3:35;s1-2:81;u2:6;u2:3;c2:0@878;c3:1@878;c1:2@1061;c2:1@1061;");
        Due.same("without the first of each", town.without(0, 30, 41).text(),
            "s0-2:78;s2-3:35;s1-2:81;u2:3;c3:1@878;c1:2@1061;c2:1@1061;");
        Due.same("without the last of each", town.without(20, 31, 44).text(),
            "s0-1:21;s0-2:78;s2-3:35;u2:6;c2:0@878;c3:1@878;c1:2@1061;");
    }

    /** Of the towns of 20,000 seeds these two texts are the longest and the shortest of size 20. */
    private static void shortestAndLongest() {
        Made.town(3354, 20).is("print() of the longest", 548, Counted::print);
        Made.town(5034, 20).is("print() of the shortest", 475, Counted::print);
        Made.fresh().is("print() of a new town", 14, Counted::print);
        Due.same("the end of the longest", Made.town(3354, 20).text().substring(537), "c16:0@1171;");
    }

    private static void isATownsText() {
        for (int seed = 0; seed < 200; seed++) {
            Made town = Made.town(seed * 7919, seed % 21);
            town.signed(town.text()).is("check() of the print of seed " + seed * 7919, -1, Counted::check);
        }
    }
}
