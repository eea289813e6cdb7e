/** Promise 1: a new object is the town of seed 0 and size 0, with nothing printed and nothing on the tape. */
public final class Promise01NewTest {
    public static void main(String[] args) {
        Made fresh = Made.fresh();
        Due.same("state", fresh.state(), Made.town(0, 0).state());
        Due.same("text", fresh.text(), "u0:6;c0:2@971;");
        Due.same("counts", fresh.counts(), "1 0 1 1 1 0");
        Due.same("verdicts", fresh.verdicts(), "00000");
        Due.same("the latest print", fresh.printed(), "");
        fresh.is("at(0)", -1, x -> x.at(0));
        fresh.is("check()", -1, Counted::check);
        fresh.is("sign", 1, x -> x.sign('x', 1));
        fresh.is("way(0, 0)", 0, x -> x.way(0, 0));
        eachIsItsOwn();
        Due.end();
    }

    /** What becomes of one object is nothing to another one. */
    private static void eachIsItsOwn() {
        ServiceDrawer one = new ServiceDrawer();
        one.draw(5, 20);
        one.print();
        one.sign('x', 1);
        Due.same("state beside another one", Made.fresh().state(), Made.town(0, 0).state());
        ServiceDrawer other = new ServiceDrawer();
        other.check();
        Due.answers("the first one's tape", 0, one::check);
        Due.answers("the first one's print", 's', () -> one.at(0));
        Due.answers("the first one's town", 21, () -> one.count(0));
    }
}
