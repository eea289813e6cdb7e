/** Promise 9: print. What it writes stands in the test of the text. */
public final class Promise09PrintTest {
    private static void prints(int length, Made town) {
        town.is("print()", length, Counted::print);
        Due.same("bytes of the print", Integer.toString(town.text().length()), Integer.toString(length));
    }

    public static void main(String[] args) {
        prints(14, Made.fresh());
        prints(80, Made.town(9, 3));
        prints(58, Made.town(9, 3, 1, 30, 41));
        prints(9, Made.town(0, 0, 30));
        prints(0, Made.town(0, 0, 30, 41));
        prints(541, Made.town(5, 20));
        prints(530, Made.town(5, 20, 41));
        prints(548, Made.town(3354, 20));
        prints(475, Made.town(5034, 20));
        prints(0, Made.town(5, 20).withoutAll(0, 61));
        again();
        leavesTownAndTape();
        Due.end();
    }

    /** A print is the present town's, whatever was printed before. */
    private static void again() {
        Made twice = Made.town(9, 3).after(Counted::print);
        Due.same("a second print", twice.text(), Made.town(9, 3).text());
        Made longer = Made.town(0, 0).after(Counted::print).after(x -> x.draw(5, 20));
        Due.same("a longer one behind a shorter one", longer.text(), Made.town(5, 20).text());
        Made shorter = Made.town(5, 20).after(Counted::print).after(x -> x.draw(0, 0));
        Due.same("a shorter one behind a longer one", shorter.text(), "u0:6;c0:2@971;");
        Made none = Made.town(5, 20).after(Counted::print).after(x -> x.draw(0, 0)).without(30, 41);
        Due.same("an empty one behind a longer one", none.text(), "");
    }

    private static void leavesTownAndTape() {
        Made printed = Made.busy().after(Counted::print);
        Due.same("counts", printed.counts(), Made.busy().counts());
        Due.same("print", printed.printed(), "s0-2:78;s2-3:35;s1-2:81;u2:6;c2:0@878;c3:1@878;c2:1@1061;");
        printed.signed(":1;").is("check()", -1, Counted::check);
    }
}
