import java.util.regex.Matcher;
import java.util.regex.Pattern;

/** Terms: when a text is a town's, and where it is WRONG. */
public final class TermsWrongTest {
    private static final String STREET = "s[0-9]{1,4}-[0-9]{1,4}:[0-9]{1,4};";
    private static final String UNIT = "u[0-9]{1,4}:[0-9]{1,4};";
    private static final String CALL = "c[0-9]{1,4}:[0-9]{1,4}@[0-9]{1,4};";
    private static final Pattern FORM =
        Pattern.compile("(" + STREET + "){0,30}(" + UNIT + "){0,11}(" + CALL + "){0,21}");
    private static final Pattern NUMBER = Pattern.compile("[0-9]{1,4}");
    private static final String TOWN = "s0-1:5;s12-20:99;u3:1;u20:7;c20:0@0;c7:2@1439;";

    /** One object checks many texts, as long as its calls allow. */
    private static Counted checker = new Counted();

    private static void check(String text, int want) {
        if (checker.calls() + text.length() / 8 + 3 > Counted.MOST_CALLS) {
            checker = new Counted();
        }
        Counted x = checker;
        Made same = () -> x;
        same.signed(text).is("check of " + text, want, Counted::check);
    }

    public static void main(String[] args) {
        towns();
        order();
        howMany();
        room();
        zeroInFront();
        atMostFourDigits();
        aboveTheLower();
        missing();
        otherBytes();
        everyNumberAtEveryPlace();
        everyByteAtEveryPlace();
        Due.end();
    }

    /** "rows like that (or none)" */
    private static void towns() {
        check("", -1);
        check("s0-1:1;", -1);
        check("u0:1;", -1);
        check("c0:0@0;", -1);
        check(TOWN, -1);
        check("s0-1:5;c0:0@0;", -1);
        check("u0:1;c0:0@0;", -1);
        check("s19-20:99;u20:7;c20:2@1439;", -1);
    }

    /** "in that order (streets, units, calls)" */
    private static void order() {
        check("u0:1;s0-1:5;", 5);
        check("c0:0@0;s0-1:5;", 7);
        check("c0:0@0;u0:1;", 7);
        check("s0-1:5;u0:1;s0-1:5;", 12);
        check("u0:1;c0:0@0;u0:1;", 12);
        check("u0:1;s", 5);
        // Among streets, units and calls each order of their numbers is a town's.
        check("s19-20:99;s0-1:1;s0-1:1;u20:7;u0:1;c20:2@1439;c0:0@0;", -1);
    }

    /** "at most 30 streets, 11 units, 21 calls": with the letter of a row too many it can't be so. */
    private static void howMany() {
        String streets = "s0-1:5;".repeat(30);
        String units = "u0:1;".repeat(11);
        String calls = "c0:0@0;".repeat(21);
        check(streets, -1);
        check(streets + "s", 210);
        check(streets + "s0-1:5;", 210);
        check(streets + "s0-1:5;u0:1;", 210);
        check(units, -1);
        check(units + "u", 55);
        check(units + "u0:1;", 55);
        check(units + "u0:1;c0:0@0;", 55);
        check(calls, -1);
        check(calls + "c", 147);
        check(calls + "c0:0@0;", 147);
        check(streets + units + calls, -1);
        check(streets + units + calls + "c0:0@0;", 412);
        check(streets + units + "u0:1;" + calls, 265);
        check(streets + units + calls + "s", 412);
        check("s0-1:5;".repeat(29) + "x", 203);
    }

    /** "at most 600 bytes": the longest town's text has 597, so that a full tape is never one. */
    private static void room() {
        String longest = "s10-11:55;".repeat(30) + "u10:1;".repeat(11) + "c10:2@1439;".repeat(21);
        Due.same("bytes of the longest", Integer.toString(longest.length()), "597");
        check(longest, -1);
        check(longest + "c0;", 597);
        check(longest.substring(0, 596), 596);
        // The last number's four digits are at 592 .. 595: a fifth one, another byte, and a number that is not so.
        check(longest.substring(0, 596) + "9999", 596);
        check(longest.substring(0, 595) + "x9999", 595);
        check(longest.substring(0, 594) + "999999", 595);
        check("x".repeat(600), 0);
        check("s".repeat(600), 1);
        check("1".repeat(600), 0);
        check("s1" + "0".repeat(598), 4);
    }

    /** "Numbers without 0 in front": such a number is not so, hence wrong at the last of its bytes, at most four. */
    private static void zeroInFront() {
        check("s00-1:5;", 2);
        check("s01-2:5;", 2);
        check("s0-01:5;", 4);
        check("s0-1:05;", 6);
        check("s0-1:00;", 6);
        check("u00:1;", 2);
        check("u007:1;", 3);
        check("u0007:1;", 4);
        check("u00007:1;", 4);
        check("u0:01;", 4);
        check("c00:0@0;", 2);
        check("c0:00@0;", 4);
        check("c0:02@0;", 4);
        check("c0:0@00;", 6);
        check("c0:0@01;", 6);
        check("c0:0@0000;", 8);
        check("c0:0@00000;", 8);
        check("c0:0@0143;", 8);
        check("c0:0@01439;", 8);
        // A 0 alone is no 0 in front.
        check("s0-1:5;u0:1;c0:0@0;", -1);
        check("s10-20:10;c10:0@1000;", -1);
    }

    /** "a number at the last of its bytes, at most four, when these are not so, at a fifth one when they are" */
    private static void atMostFourDigits() {
        check("u21:1;", 2);
        check("u210:1;", 3);
        check("u2100:1;", 4);
        check("u21000:1;", 4);
        check("u210000:1;", 4);
        check("s0-1:100;", 7);
        check("s0-1:1000;", 8);
        check("s0-1:10000;", 8);
        check("c0:2@1439;", -1);
        check("c0:2@1440;", 8);
        check("c0:2@9999;", 8);
        check("c0:2@14390;", 9);
        check("c0:2@10000;", 9);
        check("c0:2@143900;", 9);
        check("c0:2@14400;", 8);
        check("c0:2@99999;", 8);
        check("c0:2@10000", 9);
        // Far beyond 32 and 64 bits.
        check("c0:2@4294967296;", 8);
        check("c0:2@18446744073709551616;", 8);
        check("u4294967296:1;", 4);
    }

    /** "of the higher corner also that it is above the lower" */
    private static void aboveTheLower() {
        check("s1-1:5;", 3);
        check("s1-0:5;", 3);
        check("s1-2:5;", -1);
        check("s0-0:5;", 3);
        check("s12-3:5;", 4);
        check("s12-11:5;", 5);
        check("s12-12:5;", 5);
        check("s12-13:5;", -1);
        check("s19-20:5;", -1);
        check("s20-20:5;", 5);
        check("s20-21:5;", 5);
        check("s20-0:5;", 4);
        // The lower one by itself may be 20.
        check("s20-", 4);
        check("s20", 3);
        // A row's lower corner counts for this row alone.
        check("s5-6:1;s1-2:1;", -1);
        check("s5-6:1;u1:1;c0:0@0;", -1);
    }

    /** "its length when something is missing"; a number that is not so is wrong also where the text ends with it. */
    private static void missing() {
        String[] fronts = {"s", "s0", "s0-", "s0-1", "s0-1:", "s0-1:5", "u", "u0", "u0:", "u0:1",
            "c", "c0", "c0:", "c0:2", "c0:2@", "c0:2@1", "c0:2@1439"};
        for (String front : fronts) {
            check(front, front.length());
        }
        for (int row = 0; row < 2; row++) {
            check("s0-1:5;" + fronts[row], 7 + fronts[row].length());
        }
        check("u0:1;u", 6);
        check("u0:1;c", 6);
        check("s1-1", 3);
        check("s0-1:0", 5);
        check("u21", 2);
        check("u00", 2);
        check("u0:0", 3);
        check("c0:3", 3);
        check("c0:2@1440", 8);
        // Where a number is missing within, the byte that stands there is wrong.
        check("s-1:5;", 1);
        check("s0-:5;", 3);
        check("s0-1:;", 5);
        check("u:1;", 1);
        check("u0:;", 3);
        check("c:0@0;", 1);
        check("c0:@0;", 3);
        check("c0:0@;", 5);
        check("c0:0;", 4);
        check("s0:1;", 2);
        check("u0;", 2);
    }

    private static void otherBytes() {
        check("x", 0);
        check(";", 0);
        check("0", 0);
        check("S0-1:5;", 0);
        check("\u0000", 0);
        check("\u00ff", 0);
        check("u0:1;;", 5);
        check("u0:1; u0:1;", 5);
        check("u0:1\n", 4);
        check("u+1:1;", 1);
        check("u-1:1;", 1);
        check("s0--1:5;", 3);
        check("u1/:1;", 2);
        check("u1\u00b2:1;", 2);
        check("u\u00b1:1;", 1);
        check("s0-1:5:", 6);
        check("u0:1@5;", 4);
        check("c0:0:5;", 4);
    }

    /** Each run of one to four digits, and some of five and six, at each place of a number. */
    private static void everyNumberAtEveryPlace() {
        // Here the text ends with the number: it would be another thing whether the higher corner is above it.
        everyNumber("s", "", 0, 20);
        everyNumber("s0-", ":5;", 1, 20);
        everyNumber("s11-", ":5;", 12, 20);
        everyNumber("s0-1:", ";", 1, 99);
        everyNumber("u", ":1;", 0, 20);
        everyNumber("u0:", ";", 1, 7);
        everyNumber("c", ":0@0;", 0, 20);
        everyNumber("c0:", "@0;", 0, 2);
        everyNumber("c0:0@", ";", 0, 1439);
    }

    private static void everyNumber(String front, String back, int lowest, int highest) {
        for (int length = 1, end = 10; length <= 6; length++, end *= 10) {
            int step = length <= 4 ? 1 : length == 5 ? 17 : 271;
            for (int number = 0; number < end; number += step) {
                String digits = Integer.toString(end + number).substring(1);
                int value = Integer.parseInt(length > 4 ? digits.substring(0, 4) : digits);
                boolean so = value >= lowest && value <= highest && (digits.charAt(0) != '0' || length == 1);
                int lastOfFour = front.length() + Math.min(length, 4) - 1;
                int behind = length > 4 ? lastOfFour + 1 : back.isEmpty() ? front.length() + length : -1;
                check(front + digits + back, so ? behind : lastOfFour);
            }
        }
    }

    /** Each byte of a town's text changed to each other one, each byte put in at each place, taken out, and each end. */
    private static void everyByteAtEveryPlace() {
        for (int at = 0; at <= TOWN.length(); at++) {
            String front = TOWN.substring(0, at);
            check(front, wrongByTheWords(front));
            for (int value = 0; value <= 255; value++) {
                String in = front + (char) value + TOWN.substring(at);
                check(in, wrongByTheWords(in));
                if (at < TOWN.length()) {
                    String changed = front + (char) value + TOWN.substring(at + 1);
                    check(changed, wrongByTheWords(changed));
                }
            }
            if (at < TOWN.length()) {
                String out = front + TOWN.substring(at + 1);
                check(out, wrongByTheWords(out));
            }
        }
    }

    /** The document's words as they stand: the first front that no rows go on from, or a number before that. */
    private static int wrongByTheWords(String text) {
        int form = wrongForm(text);
        Matcher numbers = NUMBER.matcher(text);
        int lower = 0;
        while (numbers.find() && (form < 0 || numbers.start() < form)) {
            String row = text.substring(0, numbers.start());
            int kind = Math.max(row.lastIndexOf('s'), Math.max(row.lastIndexOf('u'), row.lastIndexOf('c')));
            String place = row.substring(kind).replaceAll("[0-9]", "");
            if (!isSo(place, numbers.group(), lower)) {
                return numbers.end() - 1;
            }
            lower = Integer.parseInt(numbers.group());
        }
        return form;
    }

    private static int wrongForm(String text) {
        for (int end = 1; end <= text.length(); end++) {
            Matcher front = FORM.matcher(text.substring(0, end));
            if (!front.matches() && !front.hitEnd()) {
                return end - 1;
            }
        }
        return FORM.matcher(text).matches() ? -1 : text.length();
    }

    private static boolean isSo(String place, String digits, int lower) {
        int value = Integer.parseInt(digits);
        return Integer.toString(value).equals(digits) && switch (place) {
            case "s", "u", "c" -> value <= 20;
            case "s-" -> value <= 20 && value > lower;
            case "s-:" -> value >= 1 && value <= 99;
            case "u:" -> value >= 1 && value <= 7;
            case "c:" -> value <= 2;
            case "c:@" -> value <= 1439;
            default -> throw new AssertionError("no place of a number: " + place);
        };
    }
}
