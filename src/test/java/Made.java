import java.util.function.Consumer;
import java.util.function.ToLongFunction;

/**
 * A way to make an object that stands in some state. Each question is put to an object of its own, so that asking
 * everything needs no object of more than 512 calls, and no question can change what the next one finds.
 */
interface Made {
    int[] WRONG_VERDICTS = {-1, 5, Integer.MIN_VALUE, Integer.MAX_VALUE};
    int[] WRONG_SIZES = {-1, 21, Integer.MIN_VALUE, Integer.MAX_VALUE};

    Counted get();

    static Made fresh() {
        return Counted::new;
    }

    static Made town(int seed, int size, int... leftOut) {
        return fresh().after(x -> x.draw(seed, size)).without(leftOut);
    }

    /** A town of which parts are left out, another town's print, and the front of a text on the tape. */
    static Made busy() {
        return fresh().after(Counted::print).after(x -> x.draw(9, 3)).without(0, 31, 43).signed("s0-1:5;u0");
    }

    default Made after(Consumer<Counted> calls) {
        return () -> {
            Counted x = get();
            calls.accept(x);
            return x;
        };
    }

    default Made without(int... parts) {
        return after(x -> {
            for (int part : parts) {
                x.leave(part, true);
            }
        });
    }

    /** Without all parts from one to another that are there. */
    default Made withoutAll(int from, int to) {
        return after(x -> {
            for (int part = from; part <= to; part++) {
                if (x.part(part, 0) == 1) {
                    x.leave(part, true);
                }
            }
        });
    }

    /** Of the parts from one to another these alone. */
    default Made only(int from, int to, int... parts) {
        return after(x -> {
            for (int part = from; part <= to; part++) {
                boolean stays = false;
                for (int one : parts) {
                    stays |= one == part;
                }
                if (!stays && x.part(part, 0) == 1) {
                    x.leave(part, true);
                }
            }
        });
    }

    default Made signed(String text) {
        return after(x -> {
            for (int i = 0; i < text.length(); i += 8) {
                int n = Math.min(8, text.length() - i);
                long bytes = 0;
                for (int j = i; j < i + n; j++) {
                    bytes = bytes << 8 | text.charAt(j);
                }
                x.sign(bytes, n);
            }
        });
    }

    /** The present town's text, by a new print. */
    default String text() {
        return after(Counted::print).printed();
    }

    /** The latest print. */
    default String printed() {
        StringBuilder text = new StringBuilder();
        int step = 150;
        for (int from = 0; from < 600; from += step) {
            Counted x = get();
            for (int i = from; i < from + step; i++) {
                int value = x.at(i);
                if (value < 0) {
                    return text.toString();
                }
                text.append((char) value);
            }
        }
        return text.toString();
    }

    /** What count answers, 0 to 5. */
    default String counts() {
        StringBuilder counts = new StringBuilder();
        Counted x = get();
        for (int what = 0; what <= 5; what++) {
            counts.append(what == 0 ? "" : " ").append(x.count(what));
        }
        return counts.toString();
    }

    /** Which verdicts hold, 0 to 4. */
    default String verdicts() {
        StringBuilder verdicts = new StringBuilder();
        Counted x = get();
        for (int v = 0; v <= 4; v++) {
            verdicts.append(x.holds(v) ? 1 : 0);
        }
        return verdicts.toString();
    }

    /** What part answers of one part, 0 to 4. */
    default String part(int part) {
        StringBuilder told = new StringBuilder();
        Counted x = get();
        for (int what = 0; what <= 4; what++) {
            told.append(what == 0 ? "" : " ").append(x.part(part, what));
        }
        return told.toString();
    }

    /** Everything that can be asked: the town and what is there of it, the latest print, and what is on the tape. */
    default String state() {
        StringBuilder state = new StringBuilder(counts() + " / " + verdicts() + " / ");
        for (int part = 0; part <= 61; part++) {
            state.append(part(part)).append(", ");
        }
        state.append("/ ").append(printed()).append(" / ");
        // A byte that stands nowhere in a text tells, by where it is wrong, how far what is before it is right.
        state.append(Due.told(() -> get().sign('x', 1))).append(' ');
        state.append(Due.told(() -> after(x -> x.sign('x', 1)).get().check())).append(' ');
        state.append(Due.told(() -> get().check()));
        return state.toString();
    }

    default void is(String what, long want, ToLongFunction<Counted> call) {
        Due.answers(what, want, () -> call.applyAsLong(get()));
    }

    /** The call is refused by this exception, and nothing that can be asked is another thing after it. */
    default void refuses(String what, Class<? extends RuntimeException> by, Consumer<Counted> call) {
        Due.refuses(what, by, () -> {
            call.accept(get());
            return 0;
        });
        Made refused = after(x -> {
            try {
                call.accept(x);
            } catch (RuntimeException e) {
                // Whether it was the one that is due was looked at above.
            }
        });
        Due.same("what is refused changes nothing: " + what, refused.state(), state());
    }

    /** The call is answered, and nothing that can be asked is another thing after it. */
    default void onlyAnswers(String what, long want, ToLongFunction<Counted> call) {
        is(what, want, call);
        Due.same("only asks: " + what, after(call::applyAsLong).state(), state());
    }
}
