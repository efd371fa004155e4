/**
 * Call numbers in two schemes, a decimal one and one of letters: read, compared, kept unique on a
 * shelf, with the least cutter that is free, spine labels, and shelves that are checked.
 */
public final class CallNumbers {
    public static final int NONE = -1;

    private static final int MOST_SIGNS = 60;
    private static final int MOST_KEPT = 60;
    private static final int NOT_THERE = -2;
    private static final int FIRST_SAME = -2;

    // The parts bear the numbers by which part() tells them; a later part has a greater number.
    private static final int CLASS = 0;
    private static final int CUTTER = 1;
    private static final int YEAR = 2;
    private static final int VOLUME = 3;
    private static final int MARK = 4;

    private static final int CLASS_LETTERS = 3;
    private static final int CUTTER_DIGITS = 6;
    private static final int MARK_LETTERS = 8;
    private static final int MOST_LINES = 6;

    private final Reader reader;
    private final Shelf kept;
    private CallNumber latest;
    // The call number itself, not its place: places move, and it may be taken before the next pass().
    private CallNumber told;

    public CallNumbers(int scheme) {
        reader = new Reader(scheme >= 1);
        kept = new Shelf();
        latest = null;
        told = null;
    }

    public void sign(int c) {
        reader.collect(c & 255);
    }

    public int read() {
        CallNumber number = reader.readCollected();
        reader.forget();
        if (number == null) {
            return -1 - reader.place();
        }
        latest = number;
        return number.partCount();
    }

    public long part(int i) throws ArrayIndexOutOfBoundsException {
        if (latest == null || i < CLASS || i > MARK) {
            throw new ArrayIndexOutOfBoundsException("no such part");
        }
        switch (i) {
            case CLASS:
                return latest.classDigits;
            case CUTTER:
                return latest.cutter;
            case YEAR:
                return latest.year;
            case VOLUME:
                return latest.volume;
            default:
                return latest.markLetters;
        }
    }

    public int letter(int i) {
        return latest == null ? 0 : latest.capitalAt(i);
    }

    public int put(int record) {
        if (latest == null) {
            return NONE;
        }
        int place = kept.countBefore(latest);
        if (kept.isSameAt(place, latest)) {
            return FIRST_SAME - place;
        }
        return kept.insert(place, latest, record) ? place : NONE;
    }

    public int shelf(int place) {
        return kept.recordAt(place);
    }

    public int take(int place) {
        int record = kept.recordAt(place);
        kept.remove(place);
        return record;
    }

    public int compare(int a, int b) {
        CallNumber first = kept.numberAt(a);
        CallNumber second = kept.numberAt(b);
        if (first == null || second == null) {
            return NOT_THERE;
        }
        return order(first, second);
    }

    public int before() {
        return latest == null ? NONE : kept.countBefore(latest);
    }

    public int free() {
        if (latest == null) {
            return 0;
        }
        for (int more = 0; more <= CUTTER_DIGITS - latest.cutterDigits; more++) {
            int found = freeWithMore(latest, more);
            if (found != 0) {
                return found;
            }
        }
        return 0;
    }

    public int spine(int i) {
        return latest == null ? NONE : latest.lineAt(i);
    }

    public int pass(int record) {
        CallNumber number = kept.numberAt(kept.firstWith(record));
        if (number == null) {
            return NONE;
        }
        boolean inOrder = told == null || order(told, number) <= 0;
        told = number;
        return inOrder ? 1 : 0;
    }

    /** The first free cutter that has so many digits more than the number's own; 0 if there is none. */
    private int freeWithMore(CallNumber number, int more) {
        int digits = number.cutterDigits + more;
        int fill = (int) powerOfTen(CUTTER_DIGITS - digits);
        int beyond = (int) powerOfTen(more);
        int start = number.cutterAsWritten() * beyond;
        for (int tail = beyond / 10; tail < beyond; tail++) {
            if (hasNoZero(tail) && !kept.hasCutter(number, (start + tail) * fill)) {
                return start + tail;
            }
        }
        return 0;
    }

    /** True for 0 itself, which stands for no digit at all. */
    private static boolean hasNoZero(int tail) {
        int rest = tail;
        for (int k = 0; k < CUTTER_DIGITS && rest > 0; k++) {
            if (rest % 10 == 0) {
                return false;
            }
            rest = rest / 10;
        }
        return true;
    }

    private static long powerOfTen(int exponent) {
        long power = 1;
        for (int k = 0; k < exponent; k++) {
            power = power * 10;
        }
        return power;
    }

    /** The ORDER of two call numbers: -1, 0 or 1. */
    private static int order(CallNumber a, CallNumber b) {
        int side = side(a.classLetters, b.classLetters);
        if (side == 0) {
            side = side(a.classDigits, b.classDigits);
        }
        if (side == 0) {
            side = side(a.capital, b.capital);
        }
        if (side == 0) {
            side = side(a.cutter, b.cutter);
        }
        if (side == 0) {
            side = side(a.year, b.year);
        }
        if (side == 0) {
            side = side(a.volume, b.volume);
        }
        if (side == 0) {
            side = side(a.volumeLetter, b.volumeLetter);
        }
        return side == 0 ? side(a.mark, b.mark) : side;
    }

    private static int side(long a, long b) {
        if (a == b) {
            return 0;
        }
        return a < b ? -1 : 1;
    }

    /**
     * A call number. Letters and digits that count one by one from the left are held as numbers
     * filled up with zeros on the right: no such row ends with a zero of its own, so numbers compare
     * as the rows do, fewer before more, and are the same only if the rows are.
     */
    private static final class CallNumber {
        private int classLetters;
        private int classLetterCount;
        private long classDigits;
        private int capital;
        private int cutter;
        private int cutterDigits;
        private int year;
        private int volume;
        private int volumeLetter;
        private long mark;
        private int markLetters;
        private final int[] lines = new int[MOST_LINES];
        private int lineCount;

        void addLine(int signs) {
            if (lineCount < lines.length) {
                lines[lineCount] = signs;
                lineCount++;
            }
        }

        int lineAt(int i) {
            return i >= 0 && i < lineCount && i < lines.length ? lines[i] : NONE;
        }

        /** Each part is a line, but a class with letters is two. */
        int partCount() {
            return classLetterCount > 0 ? lineCount - 1 : lineCount;
        }

        int capitalAt(int i) {
            if (i < 0 || i > classLetterCount) {
                return 0;
            }
            if (i == classLetterCount) {
                return capital;
            }
            return classLetters >> (8 * (CLASS_LETTERS - 1 - i)) & 255;
        }

        int cutterAsWritten() {
            int digits = cutter;
            for (int k = cutterDigits; k < CUTTER_DIGITS; k++) {
                digits = digits / 10;
            }
            return digits;
        }

        boolean hasClassOf(CallNumber other) {
            return classLetters == other.classLetters && classDigits == other.classDigits;
        }
    }

    /** The call numbers that are kept, in ORDER, with their records. */
    private static final class Shelf {
        private final CallNumber[] numbers = new CallNumber[MOST_KEPT];
        private final int[] records = new int[MOST_KEPT];
        private int count;

        private boolean has(int place) {
            return place >= 0 && place < count && place < MOST_KEPT;
        }

        CallNumber numberAt(int place) {
            return has(place) ? numbers[place] : null;
        }

        int recordAt(int place) {
            return has(place) ? records[place] : NONE;
        }

        /** How many are before a call number: the place where it is, or would be. */
        int countBefore(CallNumber number) {
            int before = 0;
            for (int k = 0; k < count; k++) {
                CallNumber other = numberAt(k);
                if (other != null && order(other, number) < 0) {
                    before++;
                }
            }
            return before;
        }

        boolean isSameAt(int place, CallNumber number) {
            CallNumber other = numberAt(place);
            return other != null && order(other, number) == 0;
        }

        /** False, and nothing is done, if the shelf is full. */
        boolean insert(int place, CallNumber number, int record) {
            if (count >= MOST_KEPT || place < 0 || place > count) {
                return false;
            }
            for (int k = count; k > place; k--) {
                numbers[k] = numbers[k - 1];
                records[k] = records[k - 1];
            }
            numbers[place] = number;
            records[place] = record;
            count++;
            return true;
        }

        void remove(int place) {
            if (!has(place)) {
                return;
            }
            for (int k = place; k < count - 1; k++) {
                numbers[k] = numbers[k + 1];
                records[k] = records[k + 1];
            }
            count--;
            numbers[count] = null;
        }

        /** The first place that has the record, or NONE. */
        int firstWith(int record) {
            for (int k = 0; k < count; k++) {
                if (records[k] == record) {
                    return k;
                }
            }
            return NONE;
        }

        /** Whether one with the class and the capital of a call number has this cutter, filled up. */
        boolean hasCutter(CallNumber like, int cutter) {
            for (int k = 0; k < count; k++) {
                CallNumber other = numberAt(k);
                if (other != null && other.hasClassOf(like)
                        && other.capital == like.capital && other.cutter == cutter) {
                    return true;
                }
            }
            return false;
        }
    }

    /**
     * Collects signs and reads them. The methods that read a part go on from the place that is next
     * and answer whether the part fits; if it does not, the place is the WRONG one.
     */
    private static final class Reader {
        private static final int THE_END = -1;

        private final boolean lettered;
        private final int[] signs = new int[MOST_SIGNS];
        private int count;
        private int at;

        Reader(boolean lettered) {
            this.lettered = lettered;
        }

        void collect(int c) {
            if (count < signs.length) {
                signs[count] = c;
                count++;
            }
        }

        void forget() {
            count = 0;
        }

        int place() {
            return at;
        }

        /** The call number that is collected; null if it is WRONG. */
        CallNumber readCollected() {
            CallNumber number = new CallNumber();
            at = 0;
            boolean fits = readClass(number) && readSpace() && readCutter(number) && readRest(number);
            return fits ? number : null;
        }

        private boolean readClass(CallNumber number) {
            if (lettered && !readClassLetters(number)) {
                return false;
            }
            int start = at;
            boolean fits = lettered ? readNumber(1, 4) : readDigits(3, 3);
            int point = at;
            int width = lettered ? 4 : 9;
            if (!fits || !readFraction(width)) {
                return false;
            }
            long front = filledUp(start, point, point - start);
            number.classDigits = front * powerOfTen(width) + filledUp(point + 1, at, width);
            number.addLine(at - start);
            return true;
        }

        private boolean readClassLetters(CallNumber number) {
            int letters = 0;
            int start = at;
            for (int k = 0; k < CLASS_LETTERS; k++) {
                letters = letters << 8;
                // The letters end with the first sign that is none; the rest is filled up.
                if (at == start + k && isCapital(signAt(at))) {
                    letters = letters | signAt(at);
                    at++;
                }
            }
            number.classLetters = letters;
            number.classLetterCount = at - start;
            number.addLine(at - start);
            return at > start;
        }

        private boolean readCutter(CallNumber number) {
            int start = at;
            if (!isCapital(signAt(start))) {
                return false;
            }
            at++;
            if (!readDecimals(CUTTER_DIGITS)) {
                return false;
            }
            number.capital = signAt(start);
            number.cutter = (int) filledUp(start + 1, at, CUTTER_DIGITS);
            number.cutterDigits = at - start - 1;
            number.addLine(at - start);
            return true;
        }

        /** What there is of year, volume and mark, up to the end. */
        private boolean readRest(CallNumber number) {
            int last = CUTTER;
            for (int k = CUTTER; k <= MARK && at < count; k++) {
                if (!readSpace()) {
                    return false;
                }
                int next = partThatBegins();
                if (next <= last) {
                    return false;
                }
                boolean fits = next == YEAR ? readYear(number)
                        : next == VOLUME ? readVolume(number)
                        : readMark(number);
                if (!fits) {
                    return false;
                }
                last = next;
            }
            return at >= count;
        }

        private int partThatBegins() {
            int c = signAt(at);
            if (isDigit(c)) {
                return YEAR;
            }
            if (c == 'v' && signAt(at + 1) == '.') {
                return VOLUME;
            }
            return isSmall(c) ? MARK : NONE;
        }

        private boolean readYear(CallNumber number) {
            int start = at;
            if (!readNumber(4, 4)) {
                return false;
            }
            number.year = (int) filledUp(start, at, 4);
            number.addLine(at - start);
            return true;
        }

        private boolean readVolume(CallNumber number) {
            int start = at;
            int first = start + 2;
            at = first;
            if (!readNumber(1, 4)) {
                return false;
            }
            number.volume = (int) filledUp(first, at, at - first);
            if (isSmall(signAt(at))) {
                number.volumeLetter = signAt(at);
                at++;
            }
            number.addLine(at - start);
            return true;
        }

        private boolean readMark(CallNumber number) {
            int start = at;
            long mark = 0;
            for (int k = 0; k < MARK_LETTERS; k++) {
                mark = mark << 8;
                if (at == start + k && isSmall(signAt(at))) {
                    mark = mark | signAt(at);
                    at++;
                }
            }
            number.mark = mark;
            number.markLetters = at - start;
            number.addLine(at - start);
            return at > start;
        }

        private boolean readSpace() {
            if (signAt(at) != ' ') {
                return false;
            }
            at++;
            return true;
        }

        /** Perhaps a point and digits. */
        private boolean readFraction(int most) {
            if (signAt(at) != '.') {
                return true;
            }
            at++;
            return readDecimals(most);
        }

        /** Digits, the last of which is not 0. */
        private boolean readDecimals(int most) {
            if (!readDigits(1, most)) {
                return false;
            }
            if (signAt(at - 1) == '0') {
                at--;
                return false;
            }
            return true;
        }

        /** Digits, the first of which is not 0. */
        private boolean readNumber(int least, int most) {
            return signAt(at) != '0' && readDigits(least, most);
        }

        private boolean readDigits(int least, int most) {
            int digits = 0;
            for (int k = 0; k < most && isDigit(signAt(at)); k++) {
                digits++;
                at++;
            }
            return digits >= least && !isDigit(signAt(at));
        }

        /** The digits from a place up to another as a number, filled up with zeros. */
        private long filledUp(int from, int to, int width) {
            long value = 0;
            for (int k = 0; k < width; k++) {
                int digit = from + k < to ? signAt(from + k) - '0' : 0;
                value = value * 10 + digit;
            }
            return value;
        }

        private int signAt(int place) {
            return place >= 0 && place < count && place < signs.length ? signs[place] : THE_END;
        }

        private static boolean isDigit(int c) {
            return c >= '0' && c <= '9';
        }

        private static boolean isCapital(int c) {
            return c >= 'A' && c <= 'Z';
        }

        private static boolean isSmall(int c) {
            return c >= 'a' && c <= 'z';
        }
    }
}
