/** Terms: SHRINKING. The texts that remain were worked out apart from the class. */
public final class TermsShrinkingTest {
    private static void shrinks(int verdict, Made town, int left, String text) {
        town.is("shrink(" + verdict + ")", left, x -> x.shrink(verdict));
        Made smaller = town.after(x -> x.shrink(verdict));
        Due.same("text after shrink(" + verdict + ")", smaller.text(), text);
        smaller.is("the verdict goes on to hold", 1, x -> x.holds(verdict) ? 1 : 0);
        smaller.is("nothing more to leave out", 0, x -> x.shrink(verdict));
    }

    public static void main(String[] args) {
        lowerPartsFirst();
        toNothing();
        moreThanOneRound();
        aRoundGoesOn();
        leavesOutNone();
        whatWasLeftOutStaysOut();
        whileItHolds();
        Due.end();
    }

    /** "parts 0, 1, .. that are there are tried": of three calls that meet the first goes; of streets the first ones. */
    private static void lowerPartsFirst() {
        shrinks(1, Made.town(215, 2), 6, "c1:2@200;c1:0@200;");
        shrinks(1, Made.town(5, 20), 60, "c12:1@696;c12:1@696;");
        shrinks(4, Made.town(5, 20), 57, "s11-13:44;s5-20:90;s7-10:65;s0-3:37;s8-17:70;");
        shrinks(0, Made.town(2, 3), 8, "c2:1@564;");
    }

    private static void toNothing() {
        shrinks(2, Made.town(11, 4), 14, "");
        shrinks(2, Made.town(2, 0), 2, "");
    }

    /** Of the first two one round is enough; of the others a part that stayed in the first round goes in the second. */
    private static void moreThanOneRound() {
        shrinks(3, Made.town(7, 12), 32, "s4-11:9;s8-12:62;s11-12:68;u8:4;c4:1@1225;");
        shrinks(3, Made.town(5, 20), 58, "s5-19:35;s5-20:90;u20:3;c19:2@1419;");
        shrinks(3, Made.town(16, 6), 15, "s2-5:62;s3-5:85;u2:7;c3:2@721;");
        shrinks(3, Made.town(2, 12), 33, "s2-7:49;s2-10:53;u10:2;c7:0@897;");
    }

    /**
     * "a whole round": behind a part that is left out the next one is tried, not part 0 again. Begun again at part 0,
     * these would end with s1-3:73;s2-3:44;u1:4;c2:1@1029; and the like, or with a part less.
     */
    private static void aRoundGoesOn() {
        shrinks(3, Made.town(15, 3), 6, "s0-1:40;s1-3:73;u0:6;c3:1@634;");
        shrinks(3, Made.town(68, 3), 5, "s0-1:99;s1-3:55;s2-3:56;u2:6;c0:2@414;");
        shrinks(3, Made.town(143, 3), 5, "s0-1:98;s2-3:90;s0-3:76;u1:5;c2:0@398;");
    }

    private static void leavesOutNone() {
        // s0-1:52;u0:7;c0:2@145;c0:0@145 without all but both calls.
        Made both = Made.town(20, 1, 0, 30);
        shrinks(1, both, 0, "c0:2@145;c0:0@145;");
        Made nothing = Made.town(5, 20).withoutAll(0, 61);
        shrinks(2, nothing, 0, "");
    }

    private static void whatWasLeftOutStaysOut() {
        Made town = Made.town(2, 3, 0, 44);
        shrinks(0, town, 6, "c1:0@1174;");
        Made smaller = town.after(x -> x.shrink(0));
        smaller.is("street 0 stays out", 0, x -> x.part(0, 0));
        smaller.is("the town has it on", 0, x -> x.part(0, 1));
        smaller.after(x -> x.leave(0, false)).is("it can be taken in again", 1, x -> x.part(0, 0));
    }

    /** A verdict that does not hold is not shrunk by: nothing holds of 9, 3. */
    private static void whileItHolds() {
        for (int verdict = 0; verdict <= 4; verdict++) {
            int v = verdict;
            Made.town(9, 3).refuses("shrink(" + v + ")", Due.STATE, x -> x.shrink(v));
        }
    }
}
