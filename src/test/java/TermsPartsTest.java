/** Terms: PARTS, their numbers, and that they are there until they are left out. */
public final class TermsPartsTest {
    private static final int[][] FIRST_LAST_KIND = {{0, 19, 0}, {20, 29, 0}, {30, 40, 1}, {41, 61, 2}};

    public static void main(String[] args) {
        Made town = Made.town(5, 20);
        for (int[] row : FIRST_LAST_KIND) {
            for (int part = row[0]; part <= row[1]; part++) {
                isOfKind(town, part, row[2]);
            }
        }
        outside(town);
        streetsFromTheirCorner(town);
        thereUntilLeftOut();
        nothingAtAll();
        Due.end();
    }

    private static void isOfKind(Made town, int part, int kind) {
        town.is("kind of part " + part, kind, x -> x.part(part, 1));
        town.is("is there: part " + part, 1, x -> x.part(part, 0));
        town.without(part).is("is left out: part " + part, 0, x -> x.part(part, 0));
        town.without(part).is("all the others are there without " + part, 61, x -> x.count(1) + x.count(2) + x.count(3));
    }

    private static void outside(Made town) {
        for (int part : new int[] {-1, 62, Integer.MIN_VALUE, Integer.MAX_VALUE}) {
            town.refuses("part(" + part + ", 0)", Due.UNKNOWN, x -> x.part(part, 0));
            town.refuses("leave(" + part + ", true)", Due.UNKNOWN, x -> x.leave(part, true));
            town.refuses("leave(" + part + ", false)", Due.UNKNOWN, x -> x.leave(part, false));
        }
    }

    /** "0 .. 19 streets from corner i + 1", to a lower one. */
    private static void streetsFromTheirCorner(Made town) {
        for (int part = 0; part <= 19; part++) {
            int street = part;
            town.is("higher corner of street " + part, part + 1, x -> x.part(street, 3));
        }
    }

    private static void thereUntilLeftOut() {
        for (int part : new int[] {0, 19, 20, 29, 30, 40, 41, 61}) {
            Made out = Made.town(5, 20, part);
            out.is("left out: " + part, 0, x -> x.part(part, 0));
            Made in = out.after(x -> x.leave(part, false));
            Due.same("taken in again: " + part, in.state(), Made.town(5, 20).state());
            Due.same("drawn again: " + part, out.after(x -> x.draw(5, 20)).state(), Made.town(5, 20).state());
        }
    }

    private static void nothingAtAll() {
        Made nothing = Made.town(5, 20).withoutAll(0, 61);
        Due.same("counts of nothing", nothing.counts(), "21 0 0 0 0 0");
        Due.same("text of nothing", nothing.text(), "");
        nothing.refuses("leave(61, true)", Due.STATE, x -> x.leave(61, true));
        nothing.after(x -> x.leave(61, false)).is("one call there", 1, x -> x.count(3));
    }
}
