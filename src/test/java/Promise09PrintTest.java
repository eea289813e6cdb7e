/** Promise 9: print. Whole texts of many towns stand in the tests of promises 2 and 7. */
public final class Promise09PrintTest {
    private static final ServiceDrawer X = new ServiceDrawer();

    private static void prints(int want, String text) {
        Due.answers("print()", want, X::print);
        Due.same("text", Due.text(X), text);
    }

    public static void main(String[] args) {
        prints(14, "u0:6;c0:2@971;");
        X.draw(9, 3);
        prints(80, "s0-1:21;s0-2:78;s2-3:35;s1-2:81;u2:6;u2:3;c2:0@878;c3:1@878;c1:2@1061;c2:1@1061;");
        X.leave(1, true);
        X.leave(30, true);
        X.leave(41, true);
        prints(58, "s0-1:21;s2-3:35;s1-2:81;u2:3;c3:1@878;c1:2@1061;c2:1@1061;");
        X.draw(0, 0);
        X.leave(30, true);
        prints(9, "c0:2@971;");
        X.leave(41, true);
        prints(0, "");
        X.draw(5, 20);
        Due.answers("print()", 541, X::print);
        X.draw(1872, 20);
        Due.answers("print() of a long one", 548, X::print);
        // A street drawn from the higher to the lower corner is printed from the lower one.
        X.draw(-1, 2);
        prints(61, "s0-1:75;s1-2:88;s0-1:59;u1:3;u2:7;c0:2@306;c2:2@306;c1:2@306;");
        numbersOfMinutes();
        printsAreTowns();
        Due.end();
    }

    private static void printsAreTowns() {
        for (int seed = 0; seed < 300; seed++) {
            ServiceDrawer x = new ServiceDrawer();
            x.draw(seed * 7919, seed % 21);
            Due.sign(x, Due.text(x));
            Due.answers("check of a print", -1, x::check);
        }
    }

    /** Every minute that is drawn stands in the print as Java itself writes it. */
    private static void numbersOfMinutes() {
        ServiceDrawer x = new ServiceDrawer();
        for (int seed = 0; seed < 400; seed++) {
            x.draw(seed, 0);
            Due.same("text", Due.text(x), "u0:" + x.part(30, 3) + ";c0:" + x.part(41, 3) + "@" + x.part(41, 4) + ";");
        }
    }
}
