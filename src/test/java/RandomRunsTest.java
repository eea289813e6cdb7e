import java.util.Random;
import java.util.function.LongSupplier;

/** Promises 1 to 13 together: random runs of at most 512 calls, each call compared with the model's answer. */
public final class RandomRunsTest {
    private static final int[] ODD = {Integer.MIN_VALUE, -2, -1, 62, 63, 1000, Integer.MAX_VALUE};
    private static final Random CHANCE = new Random(20261115);

    private static int upTo(int highest) {
        return CHANCE.nextInt(60) == 0 ? ODD[CHANCE.nextInt(ODD.length)] : CHANCE.nextInt(highest + 1);
    }

    private static int seed() {
        return switch (CHANCE.nextInt(3)) {
            case 0 -> CHANCE.nextInt();
            case 1 -> CHANCE.nextInt(100) - 50;
            default -> Integer.MAX_VALUE - CHANCE.nextInt(30);
        };
    }

    private static void both(String call, LongSupplier got, LongSupplier want) {
        Due.same(call, Due.told(got), Due.told(want));
    }

    /** A town's text, most often with a few bytes changed, taken out or put in. */
    private static String someText() {
        Model m = new Model();
        m.draw(CHANCE.nextInt(), CHANCE.nextInt(21));
        int length = m.print();
        StringBuilder text = new StringBuilder();
        for (int i = 0; i < length; i++) {
            text.append((char) m.at(i));
        }
        String bytes = "0123456789suc-:@;x\u00ff";
        for (int k = CHANCE.nextInt(4); k > 0 && text.length() > 1; k--) {
            int at = CHANCE.nextInt(text.length());
            char put = bytes.charAt(CHANCE.nextInt(bytes.length()));
            switch (CHANCE.nextInt(4)) {
                case 0 -> text.setCharAt(at, put);
                case 1 -> text.deleteCharAt(at);
                case 2 -> text.insert(at, put);
                default -> text.setLength(Math.max(at, 1));
            }
        }
        return text.toString();
    }

    private static int signAll(Counted x, Model m, String text) {
        int calls = 0;
        for (int i = 0; i < text.length(); i += 8) {
            int n = Math.min(8, text.length() - i);
            long value = CHANCE.nextLong();
            for (int j = i; j < i + n; j++) {
                value = value << 8 | text.charAt(j);
            }
            long bytes = value;
            both("sign", () -> x.sign(bytes, n), () -> m.sign(bytes, n));
            calls++;
        }
        return calls;
    }

    private static int townCall(Counted x, Model m) {
        int a = upTo(61);
        int b = upTo(5);
        int v = upTo(5);
        int size = upTo(21);
        int seed = seed();
        int n = upTo(51);
        int u = upTo(11);
        int c = upTo(21);
        boolean out = CHANCE.nextInt(3) > 0;
        switch (CHANCE.nextInt(16)) {
            case 0 -> both("draw " + seed + " " + size, () -> x.draw(seed, size), () -> m.draw(seed, size));
            case 1, 2 -> both("part " + a + " " + b, () -> x.part(a, b), () -> m.part(a, b));
            case 3, 4, 5, 6, 7 -> both("leave " + a + " " + out, () -> {
                x.leave(a, out);
                return 0;
            }, () -> {
                m.leave(a, out);
                return 0;
            });
            case 8, 9 -> both("holds " + v, () -> x.holds(v) ? 1 : 0, () -> m.holds(v) ? 1 : 0);
            case 10, 11 -> both("way " + u + " " + c, () -> x.way(u, c), () -> m.way(u, c));
            case 12 -> both("find " + v + " " + seed + " " + size + " " + n,
                    () -> x.find(v, seed, size, n), () -> m.find(v, seed, size, n));
            case 13, 14 -> both("count " + b, () -> x.count(b), () -> m.count(b));
            default -> {
                if (CHANCE.nextInt(3) == 0) {
                    both("shrink " + v, () -> x.shrink(v), () -> m.shrink(v));
                }
            }
        }
        return 1;
    }

    private static int textCall(Counted x, Model m) {
        int i = upTo(600);
        int n = upTo(9);
        long bytes = CHANCE.nextLong();
        switch (CHANCE.nextInt(6)) {
            case 0, 1 -> both("print", x::print, m::print);
            case 2, 3 -> both("at " + i, () -> x.at(i), () -> m.at(i));
            case 4 -> {
                if (CHANCE.nextInt(4) == 0) {
                    both("sign " + bytes + " " + n, () -> x.sign(bytes, n), () -> m.sign(bytes, n));
                }
            }
            default -> {
                String text = someText();
                int calls = signAll(x, m, text);
                both("check of " + text, x::check, m::check);
                return calls + 1;
            }
        }
        return 1;
    }

    public static void main(String[] args) {
        for (int run = 0; run < 400; run++) {
            Counted x = new Counted();
            Model m = new Model();
            int calls = 0;
            while (calls < 430) {
                calls += CHANCE.nextInt(8) == 0 ? textCall(x, m) : townCall(x, m);
            }
        }
        Due.end();
    }
}
