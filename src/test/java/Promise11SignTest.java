/** Promise 11: sign. */
public final class Promise11SignTest {
    public static void main(String[] args) {
        howMany();
        lowestBytesHighestFirst();
        range();
        room();
        leavesTownAndPrint();
        Due.end();
    }

    /** "more on the tape: how many": all that are on it, from 1 .. 8 of a call. */
    private static void howMany() {
        Counted x = new Counted();
        int all = 0;
        for (int n = 1; n <= 8; n++) {
            int many = n;
            all += n;
            Due.answers("sign(-1, " + n + ")", all, () -> x.sign(-1L, many));
        }
        Due.answers("check() uses it up", 0, x::check);
        Due.answers("sign(0, 3)", 3, () -> x.sign(0L, 3));
    }

    private static void checks(int want, long... bytesAndMany) {
        Made tape = Made.fresh();
        for (int i = 0; i < bytesAndMany.length; i += 2) {
            long bytes = bytesAndMany[i];
            int n = (int) bytesAndMany[i + 1];
            tape = tape.after(x -> x.sign(bytes, n));
        }
        tape.is("check() of " + Long.toHexString(bytesAndMany[0]), want, Counted::check);
    }

    /** "the lowest n, the highest of these first": "u0:1;" and "c0:0@12;". */
    private static void lowestBytesHighestFirst() {
        checks(-1, 0x75_30_3A_31_3BL, 5);
        checks(-1, 0xFFFFFF_75_30_3A_31_3BL, 5);
        checks(-1, 0x75_30L, 2, 0x3A_31_3BL, 3);
        checks(-1, 0xFF_75L, 1, 0x00_30L, 1, 0x80_3AL, 1, 0x31L, 1, -0x100L | 0x3BL, 1);
        checks(0, 0x3B_31_3A_30_75L, 5);
        // A 0 above is a byte as any other, when it is asked for.
        checks(0, 0x75_30_3A_31_3BL, 6);
        checks(-1, 0x63_30_3A_30_40_31_32_3BL, 8);
        checks(0, 0x63_30_3A_30_40_31_32_3BL, 7);
        checks(-1, 0x63L, 1, 0x63_30_3A_30_40_31_32_3BL, 7);
    }

    private static void range() {
        for (int n : new int[] {0, 9, -1, -8, 16, Integer.MIN_VALUE, Integer.MAX_VALUE}) {
            Made.busy().refuses("sign(0, " + n + ")", Due.RANGE, x -> x.sign(0, n));
        }
    }

    private static void room() {
        Made nearly = Made.fresh().signed("u0:1;".repeat(11) + "x".repeat(540));
        nearly.is("sign(0, 4) of 595", 599, x -> x.sign(0, 4));
        nearly.is("sign(0, 5) of 595", 600, x -> x.sign(0, 5));
        for (int n = 6; n <= 8; n++) {
            int many = n;
            nearly.refuses("sign(0, " + n + ") of 595", Due.NO_ROOM, x -> x.sign(0, many));
        }
        Made full = nearly.after(x -> x.sign(0, 5));
        for (int n = 1; n <= 8; n++) {
            int many = n;
            full.refuses("sign(0, " + n + ") of 600", Due.NO_ROOM, x -> x.sign(0, many));
        }
        full.refuses("sign(0, 9) of 600: the range comes first", Due.RANGE, x -> x.sign(0, 9));
        full.refuses("sign(0, 0) of 600: the range comes first", Due.RANGE, x -> x.sign(0, 0));
        full.is("check() of 600", 55, Counted::check);
        Made usedUp = full.after(Counted::check);
        usedUp.signed("x".repeat(592)).is("sign(0, 8) of 592 behind a check", 600, x -> x.sign(0, 8));
        usedUp.signed("u0:1;").is("check() behind a check", -1, Counted::check);
    }

    private static void leavesTownAndPrint() {
        Made signed = Made.busy().signed(":1;");
        Due.same("counts", signed.counts(), Made.busy().counts());
        Due.same("the latest print", signed.printed(), "u0:6;c0:2@971;");
    }
}
