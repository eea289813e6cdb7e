/** Promise 12: check. Where texts are wrong stands in the test of the terms. */
public final class Promise12CheckTest {
    private static void check(String text, int want) {
        Made signed = Made.busy().after(Counted::check).signed(text);
        signed.is("check() of " + text, want, Counted::check);
        Made checked = signed.after(Counted::check);
        checked.is("check() again, of the tape that is used up", -1, Counted::check);
        checked.is("sign behind it", 1, x -> x.sign('x', 1));
        Due.same("nothing else is changed", checked.state(), Made.busy().after(Counted::check).state());
    }

    public static void main(String[] args) {
        check("", -1);
        check("u0:1;", -1);
        check("s0-1:5;s1-20:99;u20:7;c0:0@0;c20:2@1439;", -1);
        check("x", 0);
        check("s0-1:5", 6);
        check("s1-1:5;", 3);
        check("s10-11:55;".repeat(30) + "u10:1;".repeat(11) + "c10:2@1439;".repeat(21), -1);
        check("s10-11:55;".repeat(30) + "u10:1;".repeat(11) + "c10:2@1439;".repeat(21) + "xxx", 597);
        check("s0-1:5;".repeat(30) + "s", 210);
        usedAgain();
        bytesOfSign();
        Due.end();
    }

    /** Nothing of one text counts for the next one on the same object: rows, their order, what was begun. */
    private static void usedAgain() {
        Counted x = new Counted();
        Made same = () -> x;
        Due.answers("check() of an empty tape", -1, x::check);
        for (String text : new String[] {"c0:0@0;".repeat(21), "u0:1;".repeat(11), "s0-1:5;".repeat(30)}) {
            for (int time = 0; time < 2; time++) {
                same.signed(text).is("check() again of " + text, -1, Counted::check);
            }
        }
        same.signed("s0-1:5").is("check() of a row that is not ended", 6, Counted::check);
        same.signed(";").is("check() of what would end it", 0, Counted::check);
        same.signed("s12-3").is("check() of a corner not above", 4, Counted::check);
        same.signed("s1-3:1;").is("check() of one above", -1, Counted::check);
    }

    /** Bytes 128 .. 255 are none of a text's, also where their lowest bits are. */
    private static void bytesOfSign() {
        Made.fresh().after(x -> x.sign(0xF5_30_3A_31_3BL, 5)).is("check()", 0, Counted::check);
        Made.fresh().after(x -> x.sign(0x63_30_3A_30_40_31_32_B0L, 8)).is("check()", 7, Counted::check);
        Made.fresh().after(x -> x.sign(0xE3_30_3A_30_40_31_32_3BL, 8)).is("check()", 0, Counted::check);
    }
}
