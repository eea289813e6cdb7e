import java.util.ArrayList;
import java.util.List;
import java.util.TreeMap;
import java.util.regex.Matcher;
import java.util.regex.Pattern;

/**
 * The document told a second time, in another way than the class (maps, all ways at once, patterns), so that both
 * can be compared over many calls.
 */
final class Model {
    record Part(char kind, int corner, int second, int third) {
    }

    private static final int FAR = 1 << 20;
    private static final Pattern DIGITS = Pattern.compile("[0-9]{1,4}");

    private TreeMap<Integer, Part> had = new TreeMap<>();
    private TreeMap<Integer, Part> there = new TreeMap<>();
    private int size;
    private String printed = "";
    private final StringBuilder tape = new StringBuilder();

    Model() {
        draw(0, 0);
    }

    private static long mix(long number) {
        long v = number & 0xFFFFFFFFL;
        v ^= v >> 15;
        v = v * 0x85EBCA6BL & 0xFFFFFFFFL;
        v ^= v >> 13;
        v = v * 0xC2B2AE35L & 0xFFFFFFFFL;
        return v ^ v >> 16;
    }

    private static int draw(long seed, int k, int i, int m) {
        return (int) ((mix(seed + 65537L * k + 31L * i) >> 4) % m);
    }

    private static Part street(int a, int b, int metres) {
        return new Part('s', Math.min(a, b), Math.max(a, b), metres);
    }

    private static TreeMap<Integer, Part> town(int seed, int size) {
        TreeMap<Integer, Part> town = new TreeMap<>();
        int corners = size + 1;
        for (int i = 1; i < corners; i++) {
            town.put(i - 1, street(i, draw(seed, 0, i, i), 1 + draw(seed, 1, i, 99)));
        }
        for (int j = 0; j < size / 2; j++) {
            int a = draw(seed, 2, j, corners);
            int b = draw(seed, 3, j, corners);
            if (a != b) {
                town.put(20 + j, street(a, b, 1 + draw(seed, 1, 100 + j, 99)));
            }
        }
        for (int u = 0; u < 1 + size / 2; u++) {
            town.put(30 + u, new Part('u', draw(seed, 4, u, corners), 1 + draw(seed, 5, u, 7), 0));
        }
        for (int c = 0; c < corners; c++) {
            int minute = c > 0 && draw(seed, 8, c, 3) == 0 ? town.get(40 + c).third() : draw(seed, 9, c, 1440);
            town.put(41 + c, new Part('c', draw(seed, 6, c, corners), draw(seed, 7, c, 3), minute));
        }
        return town;
    }

    private static List<Part> of(TreeMap<Integer, Part> town, char kind) {
        List<Part> parts = new ArrayList<>();
        for (Part part : town.values()) {
            if (part.kind() == kind) {
                parts.add(part);
            }
        }
        return parts;
    }

    private static int[][] ways(TreeMap<Integer, Part> town) {
        int[][] ways = new int[21][21];
        for (int a = 0; a < 21; a++) {
            for (int b = 0; b < 21; b++) {
                ways[a][b] = a == b ? 0 : FAR;
            }
        }
        for (Part s : of(town, 's')) {
            int metres = Math.min(ways[s.corner()][s.second()], s.third());
            ways[s.corner()][s.second()] = metres;
            ways[s.second()][s.corner()] = metres;
        }
        for (int m = 0; m < 21; m++) {
            for (int a = 0; a < 21; a++) {
                for (int b = 0; b < 21; b++) {
                    ways[a][b] = Math.min(ways[a][b], ways[a][m] + ways[m][b]);
                }
            }
        }
        return ways;
    }

    private static int served(TreeMap<Integer, Part> town) {
        int[][] ways = ways(town);
        int served = 0;
        for (Part c : of(town, 'c')) {
            boolean is = false;
            for (Part u : of(town, 'u')) {
                is |= (u.second() & 1 << c.second()) != 0 && ways[u.corner()][c.corner()] < FAR;
            }
            served += is ? 1 : 0;
        }
        return served;
    }

    private static boolean verdict(TreeMap<Integer, Part> town, int verdict) {
        List<Part> calls = of(town, 'c');
        List<Part> units = of(town, 'u');
        switch (verdict) {
            case 0:
                return served(town) != calls.size();
            case 1:
                return calls.stream().map(c -> c.corner() + "@" + c.third()).distinct().count() < calls.size();
            case 2:
                return units.stream().noneMatch(u -> u.second() >= 4);
            case 3:
                int[][] ways = ways(town);
                return units.stream().anyMatch(u -> calls.stream().anyMatch(c -> {
                    int way = ways[u.corner()][c.corner()];
                    return way > 99 && way < FAR;
                }));
            default:
                return of(town, 's').stream().mapToInt(Part::third).sum() > 300;
        }
    }

    private static void unknownUnless(boolean known) {
        if (!known) {
            throw new IllegalArgumentException();
        }
    }

    private static void rangeUnless(boolean inside) {
        if (!inside) {
            throw new IndexOutOfBoundsException();
        }
    }

    private static void stateUnless(boolean so) {
        if (!so) {
            throw new IllegalStateException();
        }
    }

    int draw(int seed, int newSize) {
        rangeUnless(newSize >= 0 && newSize <= 20);
        size = newSize;
        had = town(seed, size);
        there = new TreeMap<>(had);
        return had.size();
    }

    int part(int part, int what) {
        unknownUnless(part >= 0 && part <= 61 && what >= 0 && what <= 4);
        Part p = had.get(part);
        if (what == 0) {
            return there.containsKey(part) ? 1 : 0;
        }
        if (p == null) {
            return what == 1 ? -1 : 0;
        }
        return new int[] {0, "suc".indexOf(p.kind()), p.corner(), p.second(), p.third()}[what];
    }

    void leave(int part, boolean out) {
        unknownUnless(had.containsKey(part));
        stateUnless(there.containsKey(part) == out);
        if (out) {
            there.remove(part);
        } else {
            there.put(part, had.get(part));
        }
    }

    boolean holds(int verdict) {
        unknownUnless(verdict >= 0 && verdict <= 4);
        return verdict(there, verdict);
    }

    int way(int unit, int call) {
        unknownUnless(unit >= 0 && unit <= size / 2 && call >= 0 && call <= size);
        Part u = there.get(30 + unit);
        Part c = there.get(41 + call);
        if (u == null || c == null) {
            return -1;
        }
        int way = ways(there)[u.corner()][c.corner()];
        return way < FAR ? way : -1;
    }

    int shrink(int verdict) {
        unknownUnless(verdict >= 0 && verdict <= 4);
        stateUnless(verdict(there, verdict));
        int before = there.size();
        int last;
        do {
            last = there.size();
            for (int p : new ArrayList<>(there.keySet())) {
                Part part = there.remove(p);
                if (!verdict(there, verdict)) {
                    there.put(p, part);
                }
            }
        } while (there.size() < last);
        return before - last;
    }

    int find(int verdict, int seed, int size, int n) {
        unknownUnless(verdict >= 0 && verdict <= 4);
        rangeUnless(size >= 0 && size <= 20 && n >= 1 && n <= 50);
        for (int i = 0; i < n; i++) {
            if (verdict(town(seed + i, size), verdict)) {
                return seed + i;
            }
        }
        return -1;
    }

    int print() {
        StringBuilder text = new StringBuilder();
        for (Part p : there.values()) {
            text.append(switch (p.kind()) {
                case 's' -> String.format("s%d-%d:%d;", p.corner(), p.second(), p.third());
                case 'u' -> String.format("u%d:%d;", p.corner(), p.second());
                default -> String.format("c%d:%d@%d;", p.corner(), p.second(), p.third());
            });
        }
        printed = text.toString();
        return printed.length();
    }

    int at(int i) {
        rangeUnless(i >= 0);
        return i < printed.length() ? printed.charAt(i) : -1;
    }

    int sign(long bytes, int n) {
        rangeUnless(n >= 1 && n <= 8);
        if (tape.length() + n > 600) {
            throw new UnsupportedOperationException();
        }
        for (int i = n - 1; i >= 0; i--) {
            tape.append((char) (bytes >> 8 * i & 255));
        }
        return tape.length();
    }

    int check() {
        String text = tape.toString();
        tape.setLength(0);
        return wrongPlace(text);
    }

    /** Rows as forms: N corner, H higher corner, M metres, K skills, S skill, T minute; the rest stands for itself. */
    static int wrongPlace(String text) {
        String kinds = "suc";
        String[] forms = {"N-H:M;", "N:K;", "N:S@T;"};
        int[] most = {30, 11, 21};
        int[] many = new int[3];
        int kind = 0;
        int i = 0;
        while (i < text.length()) {
            int next = kinds.indexOf(text.charAt(i));
            if (next < kind || ++many[next] > most[next]) {
                return i;
            }
            kind = next;
            i++;
            int lower = 0;
            for (char f : forms[kind].toCharArray()) {
                if (!Character.isLetter(f)) {
                    if (i >= text.length() || text.charAt(i) != f) {
                        return i;
                    }
                    i++;
                    continue;
                }
                Matcher digits = DIGITS.matcher(text).region(i, text.length());
                if (!digits.lookingAt()) {
                    return i;
                }
                if (!isNumber(f, digits.group(), lower)) {
                    return digits.end() - 1;
                }
                lower = f == 'N' ? Integer.parseInt(digits.group()) : lower;
                i = digits.end();
            }
        }
        return -1;
    }

    private static boolean isNumber(char form, String digits, int lower) {
        int value = Integer.parseInt(digits);
        return Integer.toString(value).equals(digits) && switch (form) {
            case 'N' -> value <= 20;
            case 'H' -> value <= 20 && value > lower;
            case 'M' -> value >= 1 && value <= 99;
            case 'K' -> value >= 1 && value <= 7;
            case 'S' -> value <= 2;
            default -> value <= 1439;
        };
    }

    int count(int what) {
        unknownUnless(what >= 0 && what <= 5);
        List<Part> calls = of(there, 'c');
        return switch (what) {
            case 0 -> size + 1;
            case 1 -> of(there, 's').size();
            case 2 -> of(there, 'u').size();
            case 3 -> calls.size();
            case 4 -> served(there);
            // Of the calls of one minute all but the first are bursts.
            default -> calls.size() - (int) calls.stream().mapToInt(Part::third).distinct().count();
        };
    }
}
