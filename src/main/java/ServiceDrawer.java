/**
 * Towns and days of a rescue service drawn by a seed, made smaller while a verdict stays, printed as texts, and a
 * check whether a text is one. The numbered promises of the document say what each call answers.
 */
public final class ServiceDrawer {
    private static final int LARGEST_SIZE = 20;
    private static final int MOST_CORNERS = 21;
    private static final int FIRST_FURTHER_STREET = 20;
    private static final int FIRST_UNIT = 30;
    private static final int FIRST_CALL = 41;
    private static final int PARTS = 62;
    private static final int STREET = 0;
    private static final int UNIT = 1;
    private static final int CALL = 2;
    private static final int KINDS = 3;
    private static final int VERDICTS = 5;
    private static final int MOST_SEEDS = 50;
    private static final int MOST_SIGNED = 8;
    private static final int MOST_BYTES = 600;

    private final Town town;
    /** find draws here, so that the present town stays. */
    private final Town trial;
    private final Judge judge;
    private final Printer printer;
    private final Reader reader;

    public ServiceDrawer() {
        town = new Town();
        trial = new Town();
        judge = new Judge();
        printer = new Printer();
        reader = new Reader();
        town.become(0, 0);
    }

    public int draw(int seed, int size) throws IndexOutOfBoundsException {
        if (!isSize(size)) {
            throw new IndexOutOfBoundsException("the size is not 0 .. 20");
        }
        town.become(seed, size);
        return town.partsHad();
    }

    public int part(int part, int what) throws IllegalArgumentException {
        if (!isPart(part)) {
            throw new IllegalArgumentException("no such part");
        }
        switch (what) {
            case 0:
                return town.isThere(part) ? 1 : 0;
            case 1:
                return town.has(part) ? kindOf(part) : -1;
            case 2:
                return town.cornerOf(part);
            case 3:
                return town.secondOf(part);
            case 4:
                return town.thirdOf(part);
            default:
                throw new IllegalArgumentException("no such what");
        }
    }

    public void leave(int part, boolean out) throws IllegalArgumentException, IllegalStateException {
        if (!town.has(part)) {
            throw new IllegalArgumentException("the town has no such part");
        }
        if (town.isThere(part) != out) {
            throw new IllegalStateException("the part is so already");
        }
        town.setThere(part, !out);
    }

    public boolean holds(int verdict) throws IllegalArgumentException {
        if (!isVerdict(verdict)) {
            throw new IllegalArgumentException("no such verdict");
        }
        return judge.says(town, verdict);
    }

    public int way(int unit, int call) throws IllegalArgumentException {
        if (unit < 0 || unit >= town.units() || call < 0 || call >= town.calls()) {
            throw new IllegalArgumentException("the town has not so many");
        }
        return judge.metresBetween(town, FIRST_UNIT + unit, FIRST_CALL + call);
    }

    public int shrink(int verdict) throws IllegalArgumentException, IllegalStateException {
        if (!isVerdict(verdict)) {
            throw new IllegalArgumentException("no such verdict");
        }
        if (!judge.says(town, verdict)) {
            throw new IllegalStateException("the verdict does not hold");
        }
        return judge.leaveOutWhile(town, verdict);
    }

    public int find(int verdict, int seed, int size, int n) throws IllegalArgumentException, IndexOutOfBoundsException {
        if (!isVerdict(verdict)) {
            throw new IllegalArgumentException("no such verdict");
        }
        if (!isSize(size) || n < 1 || n > MOST_SEEDS) {
            throw new IndexOutOfBoundsException("the size is not 0 .. 20, or n not 1 .. 50");
        }
        for (int i = 0; i < n; i++) {
            trial.become(seed + i, size);
            if (judge.says(trial, verdict)) {
                return seed + i;
            }
        }
        return -1;
    }

    public int print() {
        printer.write(town);
        return printer.text.length();
    }

    public int at(int i) throws IndexOutOfBoundsException {
        if (i < 0) {
            throw new IndexOutOfBoundsException("a byte's number is below 0");
        }
        return printer.text.byteAt(i);
    }

    public int sign(long bytes, int n) throws IndexOutOfBoundsException, UnsupportedOperationException {
        if (n < 1 || n > MOST_SIGNED) {
            throw new IndexOutOfBoundsException("n is not 1 .. 8");
        }
        if (n > MOST_BYTES - reader.tape.length()) {
            throw new UnsupportedOperationException("the tape has no room");
        }
        for (int i = n - 1; i >= 0; i--) {
            reader.tape.add((int) (bytes >>> (8 * i)) & 255);
        }
        return reader.tape.length();
    }

    public int check() {
        int wrong = reader.wrongPlace();
        reader.tape.clear();
        return wrong;
    }

    public int count(int what) throws IllegalArgumentException {
        switch (what) {
            case 0:
                return town.corners();
            case 1:
                return town.howManyThere(0, FIRST_UNIT);
            case 2:
                return town.howManyThere(FIRST_UNIT, FIRST_CALL);
            case 3:
                return town.howManyThere(FIRST_CALL, PARTS);
            case 4:
                return judge.servedCalls(town);
            case 5:
                return judge.bursts(town);
            default:
                throw new IllegalArgumentException("no such what");
        }
    }

    private static boolean isSize(int size) {
        return size >= 0 && size <= LARGEST_SIZE;
    }

    private static boolean isVerdict(int verdict) {
        return verdict >= 0 && verdict < VERDICTS;
    }

    private static boolean isPart(int part) {
        return part >= 0 && part < PARTS;
    }

    private static boolean isCorner(int corner) {
        return corner >= 0 && corner < MOST_CORNERS;
    }

    private static int kindOf(int part) {
        if (part < FIRST_UNIT) {
            return STREET;
        }
        return part < FIRST_CALL ? UNIT : CALL;
    }

    /** What a seed and a size draw, and which of it is there. Each part has a corner and two more numbers. */
    private static final class Town {
        private final boolean[] had;
        private final boolean[] there;
        private final int[] corner;
        private final int[] second;
        private final int[] third;
        private int seed;
        private int size;
        private int parts;

        Town() {
            had = new boolean[PARTS];
            there = new boolean[PARTS];
            corner = new int[PARTS];
            second = new int[PARTS];
            third = new int[PARTS];
        }

        void become(int newSeed, int newSize) {
            seed = newSeed;
            size = newSize;
            forget();
            drawStreets();
            drawFurtherStreets();
            drawUnits();
            drawCalls();
        }

        private void forget() {
            parts = 0;
            for (int p = 0; p < PARTS; p++) {
                had[p] = false;
                there[p] = false;
                corner[p] = 0;
                second[p] = 0;
                third[p] = 0;
            }
        }

        private void drawStreets() {
            for (int i = 1; i <= size; i++) {
                putStreet(i - 1, i, drawn(0, i, i), 1 + drawn(1, i, 99));
            }
        }

        private void drawFurtherStreets() {
            for (int j = 0; j < size / 2; j++) {
                int from = drawn(2, j, corners());
                int to = drawn(3, j, corners());
                if (from != to) {
                    putStreet(FIRST_FURTHER_STREET + j, from, to, 1 + drawn(1, 100 + j, 99));
                }
            }
        }

        private void drawUnits() {
            for (int u = 0; u < units(); u++) {
                put(FIRST_UNIT + u, drawn(4, u, corners()), 1 + drawn(5, u, 7), 0);
            }
        }

        private void drawCalls() {
            int minute = 0;
            for (int c = 0; c < calls(); c++) {
                boolean burst = c > 0 && drawn(8, c, 3) == 0;
                minute = burst ? minute : drawn(9, c, 1440);
                put(FIRST_CALL + c, drawn(6, c, corners()), drawn(7, c, 3), minute);
            }
        }

        private void putStreet(int part, int from, int to, int metres) {
            put(part, Math.min(from, to), Math.max(from, to), metres);
        }

        private void put(int part, int itsCorner, int itsSecond, int itsThird) {
            if (isPart(part)) {
                had[part] = true;
                there[part] = true;
                corner[part] = itsCorner;
                second[part] = itsSecond;
                third[part] = itsThird;
                parts++;
            }
        }

        private int drawn(int kind, int number, int limit) {
            if (limit < 1) {
                return 0;
            }
            return (mixed(seed + 65537 * kind + 31 * number) >>> 4) % limit;
        }

        private static int mixed(int number) {
            int v = (number ^ (number >>> 15)) * 0x85EBCA6B;
            v = (v ^ (v >>> 13)) * 0xC2B2AE35;
            return v ^ (v >>> 16);
        }

        int corners() {
            return 1 + size;
        }

        int units() {
            return 1 + size / 2;
        }

        int calls() {
            return 1 + size;
        }

        int partsHad() {
            return parts;
        }

        boolean has(int part) {
            return isPart(part) && had[part];
        }

        boolean isThere(int part) {
            return isPart(part) && there[part];
        }

        void setThere(int part, boolean now) {
            if (has(part)) {
                there[part] = now;
            }
        }

        int cornerOf(int part) {
            return isPart(part) ? corner[part] : 0;
        }

        int secondOf(int part) {
            return isPart(part) ? second[part] : 0;
        }

        int thirdOf(int part) {
            return isPart(part) ? third[part] : 0;
        }

        int howManyThere(int from, int end) {
            int many = 0;
            for (int p = from; p < end; p++) {
                if (isThere(p)) {
                    many++;
                }
            }
            return many;
        }
    }

    /** What goes over the streets that are there: metres from one corner, and the skills that come to each. */
    private static final class Roads {
        /** Above every way: no way is longer than 20 streets of 99 metres. */
        private static final int NO_WAY = 1_000_000;

        private final int[] metres;
        private final int[] skills;

        Roads() {
            metres = new int[MOST_CORNERS];
            skills = new int[MOST_CORNERS];
        }

        void measureFrom(Town town, int corner) {
            for (int i = 0; i < MOST_CORNERS; i++) {
                metres[i] = i == corner ? 0 : NO_WAY;
            }
            boolean shorter = true;
            // A shortest way passes each corner at most once, so that so many rounds are enough.
            for (int round = 0; round < MOST_CORNERS && shorter; round++) {
                shorter = false;
                for (int p = 0; p < FIRST_UNIT; p++) {
                    if (town.isThere(p)) {
                        boolean there = shorten(town.cornerOf(p), town.secondOf(p), town.thirdOf(p));
                        boolean back = shorten(town.secondOf(p), town.cornerOf(p), town.thirdOf(p));
                        shorter = shorter || there || back;
                    }
                }
            }
        }

        private boolean shorten(int from, int to, int length) {
            if (!isCorner(from) || !isCorner(to) || metres[from] + length >= metres[to]) {
                return false;
            }
            metres[to] = metres[from] + length;
            return true;
        }

        int metresTo(int corner) {
            return isCorner(corner) && metres[corner] < NO_WAY ? metres[corner] : -1;
        }

        void bringSkills(Town town) {
            for (int i = 0; i < MOST_CORNERS; i++) {
                skills[i] = 0;
            }
            for (int p = FIRST_UNIT; p < FIRST_CALL; p++) {
                int corner = town.cornerOf(p);
                if (town.isThere(p) && isCorner(corner)) {
                    skills[corner] |= town.secondOf(p);
                }
            }
            boolean more = true;
            for (int round = 0; round < MOST_CORNERS && more; round++) {
                more = false;
                for (int p = 0; p < FIRST_UNIT; p++) {
                    if (town.isThere(p) && share(town.cornerOf(p), town.secondOf(p))) {
                        more = true;
                    }
                }
            }
        }

        private boolean share(int one, int other) {
            if (!isCorner(one) || !isCorner(other) || skills[one] == skills[other]) {
                return false;
            }
            int both = skills[one] | skills[other];
            skills[one] = both;
            skills[other] = both;
            return true;
        }

        boolean skillComesTo(int corner, int skill) {
            return isCorner(corner) && (skills[corner] >> skill & 1) == 1;
        }
    }

    /** What can be said of a town: verdicts, ways and counts; and the town made smaller while a verdict stays. */
    private static final class Judge {
        private static final int LONG_WAY = 99;
        private static final int MANY_METRES = 300;
        private static final int RARE_SKILL = 2;

        private final Roads roads;

        Judge() {
            roads = new Roads();
        }

        boolean says(Town town, int verdict) {
            switch (verdict) {
                case 0:
                    return servedCalls(town) < town.howManyThere(FIRST_CALL, PARTS);
                case 1:
                    return someCallsMeet(town);
                case 2:
                    return !someUnitHas(town, RARE_SKILL);
                case 3:
                    return someWayIsLong(town);
                case 4:
                    return metresOfStreets(town) > MANY_METRES;
                default:
                    return false;
            }
        }

        int leaveOutWhile(Town town, int verdict) {
            int left = 0;
            boolean more = true;
            // Each round but the last leaves out a part, so that there is at most one round more than parts.
            for (int round = 0; round <= PARTS && more; round++) {
                more = false;
                for (int p = 0; p < PARTS; p++) {
                    if (town.isThere(p)) {
                        town.setThere(p, false);
                        boolean stays = says(town, verdict);
                        town.setThere(p, !stays);
                        left += stays ? 1 : 0;
                        more = more || stays;
                    }
                }
            }
            return left;
        }

        int metresBetween(Town town, int unit, int call) {
            if (!town.isThere(unit) || !town.isThere(call)) {
                return -1;
            }
            roads.measureFrom(town, town.cornerOf(unit));
            return roads.metresTo(town.cornerOf(call));
        }

        int servedCalls(Town town) {
            roads.bringSkills(town);
            int served = 0;
            for (int c = FIRST_CALL; c < PARTS; c++) {
                if (town.isThere(c) && roads.skillComesTo(town.cornerOf(c), town.secondOf(c))) {
                    served++;
                }
            }
            return served;
        }

        int bursts(Town town) {
            int many = 0;
            for (int c = FIRST_CALL; c < PARTS; c++) {
                if (town.isThere(c) && hasEarlierOfMinute(town, c)) {
                    many++;
                }
            }
            return many;
        }

        private static boolean hasEarlierOfMinute(Town town, int call) {
            for (int c = FIRST_CALL; c < call; c++) {
                if (town.isThere(c) && town.thirdOf(c) == town.thirdOf(call)) {
                    return true;
                }
            }
            return false;
        }

        private static boolean someCallsMeet(Town town) {
            for (int c = FIRST_CALL; c < PARTS; c++) {
                if (town.isThere(c) && meetsEarlier(town, c)) {
                    return true;
                }
            }
            return false;
        }

        private static boolean meetsEarlier(Town town, int call) {
            for (int c = FIRST_CALL; c < call; c++) {
                if (town.isThere(c) && town.thirdOf(c) == town.thirdOf(call)
                        && town.cornerOf(c) == town.cornerOf(call)) {
                    return true;
                }
            }
            return false;
        }

        private static boolean someUnitHas(Town town, int skill) {
            for (int u = FIRST_UNIT; u < FIRST_CALL; u++) {
                if (town.isThere(u) && (town.secondOf(u) >> skill & 1) == 1) {
                    return true;
                }
            }
            return false;
        }

        private boolean someWayIsLong(Town town) {
            for (int u = FIRST_UNIT; u < FIRST_CALL; u++) {
                if (town.isThere(u)) {
                    roads.measureFrom(town, town.cornerOf(u));
                    for (int c = FIRST_CALL; c < PARTS; c++) {
                        if (town.isThere(c) && roads.metresTo(town.cornerOf(c)) > LONG_WAY) {
                            return true;
                        }
                    }
                }
            }
            return false;
        }

        private static int metresOfStreets(Town town) {
            int sum = 0;
            for (int p = 0; p < FIRST_UNIT; p++) {
                if (town.isThere(p)) {
                    sum += town.thirdOf(p);
                }
            }
            return sum;
        }
    }

    /** A row of bytes, made once and used again. A town's text is at most 597 bytes, so that each has room. */
    private static final class Text {
        private final int[] bytes;
        private int length;

        Text() {
            bytes = new int[MOST_BYTES];
        }

        void clear() {
            length = 0;
        }

        int length() {
            return length;
        }

        void add(int value) {
            if (length >= 0 && length < MOST_BYTES) {
                bytes[length] = value;
                length++;
            }
        }

        int byteAt(int i) {
            return i >= 0 && i < length && i < MOST_BYTES ? bytes[i] : -1;
        }
    }

    /** Writes towns as texts and keeps the latest one. */
    private static final class Printer {
        private final Text text;

        Printer() {
            text = new Text();
        }

        void write(Town town) {
            text.clear();
            for (int p = 0; p < PARTS; p++) {
                if (town.isThere(p)) {
                    writePart(town, p);
                    text.add(';');
                }
            }
        }

        private void writePart(Town town, int part) {
            int kind = kindOf(part);
            text.add(kind == STREET ? 's' : kind == UNIT ? 'u' : 'c');
            writeNumber(town.cornerOf(part));
            text.add(kind == STREET ? '-' : ':');
            writeNumber(town.secondOf(part));
            if (kind != UNIT) {
                text.add(kind == STREET ? ':' : '@');
                writeNumber(town.thirdOf(part));
            }
        }

        private void writeNumber(int number) {
            if (number >= 1000) {
                text.add('0' + number / 1000 % 10);
            }
            if (number >= 100) {
                text.add('0' + number / 100 % 10);
            }
            if (number >= 10) {
                text.add('0' + number / 10 % 10);
            }
            text.add('0' + number % 10);
        }
    }

    /** Keeps the tape and reads it as a town's text, up to the first place where it is wrong. */
    private static final class Reader {
        private static final int MOST_DIGITS = 4;
        private static final int HIGHEST_CORNER = 20;

        private final Text tape;
        private final int[] rowsOf;
        private int place;
        private int latestKind;
        private int latestNumber;
        private int wrong;

        Reader() {
            tape = new Text();
            rowsOf = new int[KINDS];
        }

        /** -1 when the text is a town's. */
        int wrongPlace() {
            place = 0;
            latestKind = STREET;
            wrong = -1;
            for (int kind = 0; kind < KINDS; kind++) {
                rowsOf[kind] = 0;
            }
            boolean right = true;
            // Each row that is right takes bytes, so that there are never more rows than these.
            for (int row = 0; row < MOST_BYTES && right && place < tape.length(); row++) {
                right = readRow();
            }
            return wrong;
        }

        private boolean readRow() {
            int kind = kindOfLetter(tape.byteAt(place));
            if (kind < 0 || kind >= KINDS || kind < latestKind || rowsOf[kind] >= mostRowsOf(kind)) {
                return wrongAt(place);
            }
            latestKind = kind;
            rowsOf[kind]++;
            place++;
            if (kind == STREET) {
                return readStreet() && readByte(';');
            }
            return (kind == UNIT ? readUnit() : readCall()) && readByte(';');
        }

        private static int kindOfLetter(int letter) {
            switch (letter) {
                case 's':
                    return STREET;
                case 'u':
                    return UNIT;
                case 'c':
                    return CALL;
                default:
                    return -1;
            }
        }

        private static int mostRowsOf(int kind) {
            if (kind == STREET) {
                return FIRST_UNIT;
            }
            return kind == UNIT ? FIRST_CALL - FIRST_UNIT : PARTS - FIRST_CALL;
        }

        private boolean readStreet() {
            return readNumber(0, HIGHEST_CORNER) && readByte('-')
                    && readNumber(latestNumber + 1, HIGHEST_CORNER) && readByte(':') && readNumber(1, 99);
        }

        private boolean readUnit() {
            return readNumber(0, HIGHEST_CORNER) && readByte(':') && readNumber(1, 7);
        }

        private boolean readCall() {
            return readNumber(0, HIGHEST_CORNER) && readByte(':') && readNumber(0, 2)
                    && readByte('@') && readNumber(0, 1439);
        }

        private boolean readByte(int due) {
            if (tape.byteAt(place) != due) {
                return wrongAt(place);
            }
            place++;
            return true;
        }

        /** A fifth digit is left standing: no number is followed by one, so that what comes next refuses it. */
        private boolean readNumber(int lowest, int highest) {
            int start = place;
            int number = 0;
            while (place - start < MOST_DIGITS && isDigit(tape.byteAt(place))) {
                number = 10 * number + tape.byteAt(place) - '0';
                place++;
            }
            if (place == start) {
                return wrongAt(place);
            }
            boolean zeroInFront = tape.byteAt(start) == '0' && place - start > 1;
            if (zeroInFront || number < lowest || number > highest) {
                return wrongAt(place - 1);
            }
            latestNumber = number;
            return true;
        }

        private static boolean isDigit(int value) {
            return value >= '0' && value <= '9';
        }

        private boolean wrongAt(int where) {
            wrong = where;
            return false;
        }
    }
}
