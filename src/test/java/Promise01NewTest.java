/** Promise 1: a new object is the town of seed 0 and size 0, with nothing printed and an empty tape. */
public final class Promise01NewTest {
    public static void main(String[] args) {
        ServiceDrawer x = new ServiceDrawer();
        ServiceDrawer drawn = new ServiceDrawer();
        drawn.draw(0, 0);
        Due.answers("at(0)", -1, () -> x.at(0));
        Due.same("state", Due.state(x), Due.state(drawn));
        Due.answers("check()", -1, x::check);
        Due.answers("sign", 1, () -> x.sign('x', 1));
        Due.same("text", Due.text(x), "u0:6;c0:2@971;");
        Due.same("text of another", Due.text(new ServiceDrawer()), "u0:6;c0:2@971;");
        Due.end();
    }
}
