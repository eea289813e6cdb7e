/** Promise 12: check. */
public final class Promise12CheckTest {
    private static final ServiceDrawer X = new ServiceDrawer();

    private static void check(String text, int want) {
        ServiceDrawer x = new ServiceDrawer();
        Due.sign(x, text);
        Due.answers("check of " + text, want, x::check);
        Due.answers("check of the tape that is used up", -1, x::check);
    }

    public static void main(String[] args) {
        towns();
        rows();
        numbers();
        zeros();
        missing();
        limits();
        usedAgain();
        Due.end();
    }

    /** Nothing of one text counts for the next one on the same object. */
    private static void usedAgain() {
        Due.answers("check() of an empty tape", -1, X::check);
        for (String text : new String[] {"s0-1:5;".repeat(30), "c0:0@0;".repeat(21), "u0:1;".repeat(11)}) {
            for (int time = 0; time < 2; time++) {
                Due.sign(X, text);
                Due.answers("check() again of " + text, -1, X::check);
            }
        }
        Due.sign(X, "s0-1:5");
        Due.answers("check() of a row that is not ended", 6, X::check);
        Due.sign(X, ";");
        Due.answers("check() of what would end it", 0, X::check);
    }

    private static void towns() {
        check("", -1);
        check("s0-1:5;s1-20:99;u20:7;c0:0@0;c20:2@1439;", -1);
        check("s0-1:1;", -1);
        check("u0:1;", -1);
        check("c0:0@1000;", -1);
        check("u0:1;u0:1;c5:1@10;c5:1@10;", -1);
        check("s19-20:10;c0:0@9;", -1);
    }

    private static void rows() {
        check("x", 0);
        check(";", 0);
        check("S0-1:5;", 0);
        check("\u0000", 0);
        check("u0:1;s0-1:5;", 5);
        check("c0:0@0;u0:1;", 7);
        check("c0:0@0;s0-1:1;", 7);
        check("u0:1;;", 5);
        check("u0:1; u0:1;", 5);
        check("s0:1;", 2);
        check("s0-1-5;", 4);
        check("s0-1@5;", 4);
        check("s0-1:5:", 6);
        check("u0-1;", 2);
        check("u0:1@5;", 4);
        check("c0:0:5;", 4);
        check("c0:0;", 4);
        check("s-1:5;", 1);
        check("s0--1:5;", 3);
        check("u:1;", 1);
        check("u0:;", 3);
        check("c0:1@;", 5);
        check("u+1:1;", 1);
        check("u1\u00b2:1;", 2);
    }

    private static void numbers() {
        check("s21-22:1;", 2);
        check("s20-20:1;", 5);
        check("s20-21:1;", 5);
        check("s1-1:5;", 3);
        check("s12-3:5;", 4);
        check("s0-0:5;", 3);
        check("s0-21:1;", 4);
        check("s0-1:0;", 5);
        check("s0-1:100;", 7);
        check("s0-1:1000;", 8);
        check("s0-1:10000;", 8);
        check("u21:1;", 2);
        check("u123:1;", 3);
        check("u1234:1;", 4);
        check("u12345:1;", 4);
        check("u300:1;", 3);
        check("u0:0;", 3);
        check("u0:8;", 3);
        check("u0:10;", 4);
        check("c21:0@0;", 2);
        check("c0:3@1;", 3);
        check("c0:10@1;", 4);
        check("c0:2@1440;", 8);
        check("c0:2@9999;", 8);
        check("c0:2@14390;", 9);
        check("c0:2@10000;", 9);
        check("c0:2@99999;", 8);
    }

    /** A number with 0 in front is not so, and so it is wrong at the last of its bytes, at most four. */
    private static void zeros() {
        check("s00-1:5;", 2);
        check("s0-01:5;", 4);
        check("s0-1:05;", 6);
        check("u00:1;", 2);
        check("u007:1;", 3);
        check("u0:01;", 4);
        check("c0:00@0;", 4);
        check("c0:0@00;", 6);
        check("c0:0@0012;", 8);
        check("c0:0@00012;", 8);
    }

    private static void missing() {
        check("s", 1);
        check("s0", 2);
        check("s0-", 3);
        check("s0-1", 4);
        check("s0-1:", 5);
        check("s0-1:5", 6);
        check("s20-", 4);
        check("u20", 3);
        check("u0:1", 4);
        check("c0:2@1439", 9);
        check("c0:2@", 5);
        check("u0:1;c", 6);
        // A number that is not so is wrong at its last byte, also where the text ends with it.
        check("s1-1", 3);
        check("s0-1:0", 5);
        check("u21", 2);
        check("c0:2@1440", 8);
    }

    private static void limits() {
        String streets = "s0-1:5;".repeat(30);
        String units = "u0:1;".repeat(11);
        String calls = "c0:0@0;".repeat(21);
        check(streets + units + calls, -1);
        check(streets + "s0-1:5;", 210);
        check(streets + "s", 210);
        check(units + "u0:1;", 55);
        check(calls + "c0:0@0;", 147);
        check(streets + units + calls + "c0:0@0;", 210 + 55 + 147);
        String full = "s10-11:55;".repeat(30) + "u10:1;".repeat(11) + "c10:2@1439;".repeat(21);
        check(full, -1);
        check(full + "xyz", 597);
        check("s10-11:55;".repeat(30) + "u10:1;".repeat(11) + "c10:2@1439;".repeat(20) + "c10:2@14390;", 596);
    }
}
