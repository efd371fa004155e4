import java.util.ArrayList;
import java.util.Collections;
import java.util.Comparator;
import java.util.HashSet;
import java.util.List;
import java.util.Random;
import java.util.Set;
import java.util.regex.Matcher;
import java.util.regex.Pattern;

/**
 * Long runs of calls, each answer held against a model of the document that works on texts: it
 * knows a call number by a pattern, orders by comparing texts and looks for free cutters in a set.
 */
public final class ModelTests {
    private static final int RUNS = 4000;
    private static final int CALLS = 512;
    private static final long THROWS = Long.MIN_VALUE;

    private static final String REST =
            " ([A-Z])([0-9]{0,5}[1-9])(?: ([1-9][0-9]{3}))?(?: (v\\.([1-9][0-9]{0,3})([a-z]?)))?(?: ([a-z]{1,8}))?";
    private static final Pattern[] WHOLE = {
        Pattern.compile("()([0-9]{3})(?:\\.([0-9]{0,8}[1-9]))?" + REST),
        Pattern.compile("([A-Z]{1,3})([1-9][0-9]{0,3})(?:\\.([0-9]{0,3}[1-9]))?" + REST)
    };

    /** A call number as texts; what is not there is empty. */
    private record Number(String letters, String front, String fraction, String capital, String digits,
            String year, String volume, String volumeNumber, String volumeLetter, String mark) {

        static Number of(Matcher m) {
            String[] g = new String[11];
            for (int k = 1; k <= 10; k++) {
                g[k] = m.group(k) == null ? "" : m.group(k);
            }
            return new Number(g[1], g[2], g[3], g[4], g[5], g[6], g[7], g[8], g[9], g[10]);
        }

        String cutterKey(String someDigits) {
            return letters + "/" + front + "/" + fraction + "/" + capital + "/" + someDigits;
        }

        List<String> lines() {
            List<String> lines = new ArrayList<>();
            String rest = fraction.isEmpty() ? front : front + "." + fraction;
            for (String line : new String[] {letters, rest, capital + digits, year, volume, mark}) {
                if (!line.isEmpty()) {
                    lines.add(line);
                }
            }
            return lines;
        }
    }

    private static int asNumber(String digits) {
        return digits.isEmpty() ? 0 : Integer.parseInt(digits);
    }

    private static final Comparator<Number> ORDER = Comparator.comparing(Number::letters)
            .thenComparing(n -> asNumber(n.front))
            .thenComparing(Number::fraction)
            .thenComparing(Number::capital)
            .thenComparing(Number::digits)
            .thenComparing(Number::year)
            .thenComparing(n -> asNumber(n.volumeNumber))
            .thenComparing(Number::volumeLetter)
            .thenComparing(Number::mark);

    private record Kept(Number number, int record) { }

    private static final class Model {
        private final int scheme;
        private final StringBuilder collected = new StringBuilder();
        private final List<Kept> shelf = new ArrayList<>();
        private Number latest;
        private Number told;

        Model(int scheme) {
            this.scheme = scheme < 0 ? 0 : scheme > 1 ? 1 : scheme;
        }

        void sign(int c) {
            if (collected.length() < 60) {
                collected.append((char) (c & 255));
            }
        }

        int read() {
            String text = collected.toString();
            collected.setLength(0);
            Matcher m = WHOLE[scheme].matcher(text);
            if (!m.matches()) {
                return -1 - wrongPlace(scheme, text);
            }
            latest = Number.of(m);
            return latest.lines().size() - scheme;
        }

        long part(int i) {
            if (latest == null || i < 0 || i > 4) {
                return THROWS;
            }
            int width = scheme == 0 ? 9 : 4;
            String[] digits = {
                latest.front + (latest.fraction + "000000000").substring(0, width),
                (latest.digits + "000000").substring(0, 6),
                "0" + latest.year,
                "0" + latest.volumeNumber,
                "" + latest.mark.length()
            };
            return Long.parseLong(digits[i]);
        }

        int letter(int i) {
            String letters = latest == null ? "" : latest.letters + latest.capital;
            return i < 0 || i >= letters.length() ? 0 : letters.charAt(i);
        }

        int before() {
            if (latest == null) {
                return -1;
            }
            return (int) shelf.stream().filter(k -> ORDER.compare(k.number, latest) < 0).count();
        }

        int put(int record) {
            if (latest == null) {
                return -1;
            }
            for (int k = 0; k < shelf.size(); k++) {
                if (shelf.get(k).number.equals(latest)) {
                    return -2 - k;
                }
            }
            if (shelf.size() == 60) {
                return -1;
            }
            Kept kept = new Kept(latest, record);
            shelf.add(kept);
            shelf.sort(Comparator.comparing(Kept::number, ORDER));
            return shelf.indexOf(kept);
        }

        int shelf(int place) {
            return place < 0 || place >= shelf.size() ? -1 : shelf.get(place).record;
        }

        int take(int place) {
            return place < 0 || place >= shelf.size() ? -1 : shelf.remove(place).record;
        }

        int compare(int a, int b) {
            if (a < 0 || b < 0 || a >= shelf.size() || b >= shelf.size()) {
                return -2;
            }
            return Integer.signum(ORDER.compare(shelf.get(a).number, shelf.get(b).number));
        }

        int free() {
            if (latest == null) {
                return 0;
            }
            Set<String> taken = new HashSet<>();
            for (Kept kept : shelf) {
                taken.add(kept.number.cutterKey(kept.number.digits));
            }
            List<String> level = List.of(latest.digits);
            while (level.get(0).length() <= 6) {
                List<String> longer = new ArrayList<>();
                for (String digits : level) {
                    if (!taken.contains(latest.cutterKey(digits))) {
                        return Integer.parseInt(digits);
                    }
                    for (char c = '1'; c <= '9'; c++) {
                        longer.add(digits + c);
                    }
                }
                level = longer;
            }
            return 0;
        }

        int spine(int i) {
            List<String> lines = latest == null ? List.of() : latest.lines();
            return i < 0 || i >= lines.size() ? -1 : lines.get(i).length();
        }

        int pass(int record) {
            for (Kept kept : shelf) {
                if (kept.record == record) {
                    boolean inOrder = told == null || ORDER.compare(told, kept.number) <= 0;
                    told = kept.number;
                    return inOrder ? 1 : 0;
                }
            }
            return -1;
        }
    }

    /** Where a text that is no call number goes wrong: the place at which the first step stops. */
    private static int wrongPlace(int scheme, String text) {
        Cursor c = new Cursor(text);
        if (scheme == 0) {
            c.exactly("[0-9]", 3);
        } else {
            c.upTo("[A-Z]", 3);
            c.not("0");
            c.upTo("[0-9]", 4);
            c.not("[0-9]");
        }
        if (c.sees("\\.")) {
            c.decimals(1, scheme == 0 ? 9 : 4);
        }
        c.exactly(" ", 1);
        c.exactly("[A-Z]", 1);
        c.decimals(0, 6);
        if (c.sees(" [0-9]")) {
            c.exactly(" ", 1);
            c.not("0");
            c.exactly("[0-9]", 4);
        }
        if (c.sees(" v\\.")) {
            c.skip(3);
            c.not("0");
            c.upTo("[0-9]", 4);
            c.not("[0-9]");
            if (c.sees("[a-z]")) {
                c.skip(1);
            }
        }
        if (c.sees(" [a-z]") && !c.sees(" v\\.")) {
            c.skip(1);
            c.upTo("[a-z]", 8);
        }
        // The text is no call number: if all its parts fit, more stands behind them.
        if (c.sees(" ")) {
            c.skip(1);
        }
        return c.place;
    }

    private static final class Cursor {
        private final String text;
        private int place = 0;
        private boolean stopped = false;

        Cursor(String text) {
            this.text = text;
        }

        boolean sees(String pattern) {
            return !stopped && Pattern.compile(pattern, Pattern.DOTALL).matcher(text.substring(place)).lookingAt();
        }

        void skip(int signs) {
            place += stopped ? 0 : signs;
        }

        void exactly(String sign, int times) {
            for (int k = 0; k < times && !stopped; k++) {
                stopped = !sees(sign);
                skip(1);
            }
        }

        void upTo(String sign, int times) {
            exactly(sign, 1);
            for (int k = 1; k < times && sees(sign); k++) {
                skip(1);
            }
        }

        void not(String sign) {
            stopped = stopped || sees(sign);
        }

        void decimals(int ahead, int times) {
            skip(ahead);
            upTo("[0-9]", times);
            not("[0-9]");
            if (!stopped && text.charAt(place - 1) == '0') {
                place--;
                stopped = true;
            }
        }
    }

    /** Makes texts that are often call numbers, often near ones, and often meet each other. */
    private static final class Texts {
        private final Random dice;
        private final int scheme;
        private final boolean narrow;
        private final boolean late;
        private final List<String> shortOnes = new ArrayList<>();

        Texts(Random dice, int scheme, int kind) {
            this.dice = dice;
            this.scheme = scheme;
            this.narrow = kind == 0;
            this.late = kind == 1;
        }

        private String from(String alphabet, int least, int most) {
            StringBuilder made = new StringBuilder();
            int signs = least + dice.nextInt(most - least + 1);
            for (int k = 0; k < signs; k++) {
                made.append(alphabet.charAt(dice.nextInt(alphabet.length())));
            }
            return made.toString();
        }

        private boolean chance(int percent) {
            return dice.nextInt(100) < percent;
        }

        /** So short that enough of them fill a shelf within an object's calls; none comes twice at first. */
        String shortOne(int turn) {
            if (turn == 0) {
                for (char capital = 'A'; capital <= 'Z'; capital++) {
                    for (char digit = '1'; digit <= '9'; digit++) {
                        shortOnes.add((scheme == 0 ? "500 " : "Q5 ") + capital + digit);
                    }
                }
                Collections.shuffle(shortOnes, dice);
            }
            return shortOnes.get(turn < 62 ? turn : dice.nextInt(70));
        }

        String next() {
            String text = late ? lateOne() : narrow ? narrowOne() : wideOne();
            return chance(25) ? spoiled(text) : text;
        }

        private String narrowOne() {
            String made = scheme == 0 ? "500" : "Q1";
            made += chance(10) ? ".1" : "";
            made += " D" + (chance(70) ? "1234" : "123") + from("123456789", 0, 2);
            return made;
        }

        /** One of many with the same class and cutter. */
        private String lateOne() {
            String made = scheme == 0 ? "500 D1" : "Q1 D1";
            made += chance(30) ? " " + from("12", 1, 1) + "000" : "";
            made += chance(70) ? " v." + from("12", 1, 1) + from("01", 0, 1) + from("ab", 0, 1) : "";
            made += chance(50) ? " " + from("ab", 1, 2) : "";
            return made;
        }

        private String wideOne() {
            String digits = chance(50) ? "01" : "0123456789";
            String made = scheme == 0 ? from(digits, 3, 3)
                    : from(chance(50) ? "QA" : "ABCXYZ", 1, 3) + from("1239", 1, 1) + from(digits, 0, 3);
            if (chance(50)) {
                made += "." + from(digits, 0, scheme == 0 ? 8 : 3) + from("19", 1, 1);
            }
            made += " " + from("ADZ", 1, 1) + from(digits, 0, 5) + from("125", 1, 1);
            if (chance(30)) {
                made += " " + from("129", 1, 1) + from(digits, 3, 3);
            }
            if (chance(30)) {
                made += " v." + from("129", 1, 1) + from(digits, 0, 3) + (chance(50) ? from("abz", 1, 1) : "");
            }
            if (chance(30)) {
                made += " " + from(chance(50) ? "av" : "abcvxyz", 1, 8);
            }
            return made;
        }

        private String spoiled(String text) {
            StringBuilder made = new StringBuilder(text);
            int times = 1 + dice.nextInt(2);
            for (int k = 0; k < times; k++) {
                int place = dice.nextInt(made.length() + 1);
                String sign = from("00159 .vazAZ/:@[`{\n\u00e9", 1, 1);
                if (chance(40) && place < made.length()) {
                    made.deleteCharAt(place);
                } else if (chance(50)) {
                    made.insert(place, sign);
                } else {
                    made.replace(place, Math.min(place + 1, made.length()), sign);
                }
            }
            return chance(10) ? made.substring(0, dice.nextInt(made.length() + 1)) : made.toString();
        }
    }

    private static int wrong = 0;
    private static final int[] READS = new int[2];
    private static final int[] FULL_SHELVES = new int[2];
    private static int noneFree = 0;

    private static long part(CallNumbers x, int i) {
        try {
            return x.part(i);
        } catch (ArrayIndexOutOfBoundsException e) {
            return THROWS;
        }
    }

    private static void due(int run, String call, long got, long want) {
        if (got != want) {
            wrong++;
            if (wrong <= 20) {
                System.out.println("run " + run + ": " + call + " answered " + got + ", due is " + want);
            }
        }
    }

    private static void run(int run) {
        Random dice = new Random(run);
        int scheme = run % 8 == 0 ? run % 56 - 24 : run % 2;
        CallNumbers x = new CallNumbers(scheme);
        Model m = new Model(scheme);
        Texts texts = new Texts(dice, m.scheme, run % 3);
        boolean filling = run % 5 < 2;
        boolean toTheFull = run % 10 < 4;
        int end = toTheFull ? CALLS : CALLS - 60;
        int calls = 0;
        int turn = 0;
        while (calls < end) {
            boolean fillUp = toTheFull && m.shelf.size() < 60;
            String text = null;
            if (fillUp || m.latest == null || dice.nextInt(100) < (filling ? 70 : 35)) {
                text = toTheFull ? texts.shortOne(turn++) : texts.next();
            }
            if (text == null || calls + text.length() + 2 > CALLS) {
                ask(run, dice, x, m, filling);
                calls++;
            } else {
                readAndPut(run, dice, x, m, text);
                calls += text.length() + 2;
            }
        }
        for (int k = 0; k < 61 && calls < CALLS; k++, calls++) {
            due(run, "shelf(" + k + ")", x.shelf(k), m.shelf(k));
        }
    }

    private static void readAndPut(int run, Random dice, CallNumbers x, Model m, String text) {
        for (int k = 0; k < text.length(); k++) {
            int c = text.charAt(k) + (run % 7 == 0 ? 256 * dice.nextInt() : 0);
            x.sign(c);
            m.sign(c);
        }
        int answer = m.read();
        due(run, "read() of '" + text + "'", x.read(), answer);
        READS[answer < 0 ? 1 : 0]++;
        int record = dice.nextInt(12) - 1;
        int place = m.put(record);
        FULL_SHELVES[m.scheme] += place == -1 && m.latest != null ? 1 : 0;
        due(run, "put(" + record + ")", x.put(record), place);
    }

    private static void ask(int run, Random dice, CallNumbers x, Model m, boolean filling) {
        int i = dice.nextInt(50) == 0 ? dice.nextInt() : dice.nextInt(8) - 1;
        int a = dice.nextInt(m.shelf.size() + 3) - 1;
        int b = dice.nextInt(m.shelf.size() + 3) - 1;
        switch (dice.nextInt(filling ? 8 : 9)) {
            case 0 -> due(run, "part(" + i + ")", part(x, i), m.part(i));
            case 1 -> due(run, "letter(" + i + ")", x.letter(i), m.letter(i));
            case 2 -> due(run, "spine(" + i + ")", x.spine(i), m.spine(i));
            case 3 -> due(run, "shelf(" + a + ")", x.shelf(a), m.shelf(a));
            case 4 -> due(run, "compare(" + a + ", " + b + ")", x.compare(a, b), m.compare(a, b));
            case 5 -> due(run, "before()", x.before(), m.before());
            case 6 -> {
                int free = m.free();
                noneFree += free == 0 ? 1 : 0;
                due(run, "free()", x.free(), free);
            }
            case 7 -> due(run, "pass(" + i + ")", x.pass(i), m.pass(i));
            default -> due(run, "take(" + a + ")", x.take(a), m.take(a));
        }
    }

    public static void main(String[] args) {
        for (int run = 0; run < RUNS; run++) {
            run(run);
        }
        System.out.println(READS[0] + " call numbers and " + READS[1] + " wrong texts were read, "
                + FULL_SHELVES[0] + " and " + FULL_SHELVES[1] + " times the shelf was full, " + noneFree + " times no cutter was free");
        // Runs that never come to an edge would pass without testing it.
        boolean idle = READS[0] == 0 || READS[1] == 0 || FULL_SHELVES[0] == 0
                || FULL_SHELVES[1] == 0 || noneFree == 0;
        System.out.println(wrong == 0 ? "all answers are as due" : wrong + " answers are not as due");
        if (wrong != 0 || idle) {
            System.exit(1);
        }
    }
}
