import java.util.function.ToLongFunction;

/** "An object is used for at most 512 calls": the last one of these is answered as the first one, also of the dearest. */
public final class HeadCallsTest {
    private static void always(String what, long want, int before, ToLongFunction<Counted> call, Counted x) {
        for (int i = before; i < Counted.MOST_CALLS; i++) {
            Due.answers(what + ", call " + (i + 1), want, () -> call.applyAsLong(x));
        }
        Due.same("calls", Integer.toString(x.calls()), "512");
    }

    public static void main(String[] args) {
        always("print()", 541, 1, Counted::print, Made.town(5, 20).get());
        always("draw(5, 20)", 62, 0, x -> x.draw(5, 20), new Counted());
        always("find(2, 1, 20, 50)", -1, 0, x -> x.find(2, 1, 20, 50), new Counted());
        always("holds(3)", 1, 1, x -> x.holds(3) ? 1 : 0, Made.town(5, 20).get());
        always("count(4)", 21, 1, x -> x.count(4), Made.town(5, 20).get());
        always("check()", -1, 0, Counted::check, new Counted());
        shrinkings();
        signs();
        leaves();
        Due.end();
    }

    private static void shrinkings() {
        Counted x = new Counted();
        for (int i = 0; i < Counted.MOST_CALLS / 2; i++) {
            Due.answers("draw(2, 12)", 37, () -> x.draw(2, 12));
            Due.answers("shrink(3)", 33, () -> x.shrink(3));
        }
    }

    /** Of 512 bytes, one a call, each has room; of eight a call the tape is full after 75. */
    private static void signs() {
        Counted x = new Counted();
        for (int i = 1; i < Counted.MOST_CALLS; i++) {
            Due.answers("sign", i, () -> x.sign('u', 1));
        }
        Due.answers("check() as call 512", 1, x::check);
        Counted y = new Counted();
        for (int i = 1; i <= 75; i++) {
            Due.answers("sign", 8L * i, () -> y.sign(0, 8));
        }
        for (int i = 76; i <= Counted.MOST_CALLS; i++) {
            Due.refuses("sign as call " + i, Due.NO_ROOM, () -> y.sign(0, 8));
        }
    }

    private static void leaves() {
        Counted x = Made.town(5, 20).get();
        for (int i = 0; i < 127; i++) {
            x.leave(61, true);
            Due.answers("calls", 20, () -> x.count(3));
            x.leave(61, false);
            Due.answers("calls", 21, () -> x.count(3));
        }
        Due.refuses("leave(61, false)", Due.STATE, () -> {
            x.leave(61, false);
            return 0;
        });
    }
}
