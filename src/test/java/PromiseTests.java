/**
 * For each promise of the document ordinary calls, the edges that it names, and wrong calls; in both
 * schemes where the promise does not tell them apart.
 */
public final class PromiseTests {
    private static final int NONE = CallNumbers.NONE;
    private static final long THROWS = Answers.THROWS;

    public static void main(String[] args) {
        newObject();
        readDecimal();
        readLettered();
        partsDecimal();
        partsLettered();
        letters();
        orderDecimal();
        orderLettered();
        freeOfOtherClasses();
        spine();
        for (int scheme = 0; scheme <= 1; scheme++) {
            Answers.about("scheme " + scheme);
            signs(scheme);
            readCutter(scheme);
            readRest(scheme);
            readKeeps(scheme);
            put(scheme);
            putFull(scheme);
            shelfAndTake(scheme);
            orderBehindClasses(scheme);
            compare(scheme);
            before(scheme);
            free(scheme);
            freeRunsOut(scheme);
            pass(scheme);
            passRemembers(scheme);
        }
        Answers.end();
    }

    private static void due(String call, long got, long want) {
        Answers.due(call, got, want);
    }

    private static void dueRead(int scheme, String text, int want) {
        due("read() of '" + Desk.inScheme(scheme, text) + "'", new Desk(scheme).read(text), want);
    }

    /** The sign at this place of the text that is written here is WRONG. */
    private static void dueWrong(int scheme, String text, int place) {
        int shorter = text.length() - Desk.inScheme(scheme, text).length();
        dueRead(scheme, text, -1 - (place - shorter));
    }

    // Promise 1
    private static void newObject() {
        int[] schemes = {Integer.MIN_VALUE, -1, 0, 1, 2, Integer.MAX_VALUE};
        for (int scheme : schemes) {
            boolean lettered = scheme >= 1;
            dueRead(scheme, "822 S5", lettered ? -1 : 2);
            dueRead(scheme, "QA76 D3", lettered ? 2 : -1);
            Desk x = new Desk(scheme);
            due("new: read()", x.read(), -1);
            due("new: part(0)", x.part(0), THROWS);
            due("new: letter(0)", x.letter(0), 0);
            due("new: put(1)", x.put(1), NONE);
            due("new: shelf(0)", x.shelf(0), NONE);
            due("new: take(0)", x.take(0), NONE);
            due("new: compare(0, 0)", x.compare(0, 0), -2);
            due("new: before()", x.before(), NONE);
            due("new: free()", x.free(), 0);
            due("new: spine(0)", x.spine(0), NONE);
            due("new: pass(0)", x.pass(0), NONE);
            due("new: pass(-1)", x.pass(-1), NONE);
        }
    }

    // Promise 2
    private static void signs(int scheme) {
        String text = Desk.inScheme(scheme, "800 S5");
        Desk x = new Desk(scheme);
        for (char c : text.toCharArray()) {
            x.sign(c + 256 * (c - 70));
        }
        due("read() of signs with higher bits", x.read(), 2);
        for (char c : text.toCharArray()) {
            x.sign(c | Integer.MIN_VALUE);
        }
        due("read() of signs below 0", x.read(), 2);
        x.sign(-1);
        due("read() of sign 255", x.read(), -1);
        x.collect(text).collect("x".repeat(64 - text.length()));
        due("read() of 64 signs", x.read(), -1 - text.length());
        due("read() of none behind 64", x.read(), -1);
        due("read() behind 64", x.read("800 S5"), 2);
    }

    // Promise 3
    private static void readDecimal() {
        dueRead(0, "000 A1", 2);
        dueRead(0, "822.3 S5", 2);
        dueRead(0, "822.000000001 S5", 2);
        dueRead(0, "822.123456789 S123456 1987 v.1234z abcdefgh", 5);
        dueWrong(0, "", 0);
        dueWrong(0, " 822 S5", 0);
        dueWrong(0, "8", 1);
        dueWrong(0, "82 S5", 2);
        dueWrong(0, "822", 3);
        dueWrong(0, "8222 S5", 3);
        dueWrong(0, "822x", 3);
        dueWrong(0, "822.", 4);
        dueWrong(0, "822. S5", 4);
        dueWrong(0, "822..3 S5", 4);
        dueWrong(0, "822.0 S5", 4);
        dueWrong(0, "822.30 S5", 5);
        dueWrong(0, "822.300 S5", 6);
        dueWrong(0, "822.30x", 5);
        dueWrong(0, "822.30", 5);
        dueWrong(0, "822.123456780 S5", 12);
        dueWrong(0, "822.1234567891 S5", 13);
        dueWrong(0, "822.1234567890 S5", 13);
        dueWrong(0, "822.1234567801 S5", 13);
        dueWrong(0, "822 ", 4);
        dueWrong(0, "822  S5", 4);
        dueWrong(0, "822.3.4 S5", 5);
        dueWrong(0, "A22 S5", 0);
    }

    private static void readLettered() {
        dueRead(1, "Q1 D3", 2);
        dueRead(1, "QAZ9999.9999 D3", 2);
        dueRead(1, "Q10.01 D3", 2);
        dueWrong(1, "", 0);
        dueWrong(1, "q1 D3", 0);
        dueWrong(1, "1 D3", 0);
        dueWrong(1, "Q", 1);
        dueWrong(1, "Q D3", 1);
        dueWrong(1, "QABC1 D3", 3);
        dueWrong(1, "QAB D3", 3);
        dueWrong(1, "Q0 D3", 1);
        dueWrong(1, "Q01 D3", 1);
        dueWrong(1, "Q12345 D3", 5);
        dueWrong(1, "Q1.", 3);
        dueWrong(1, "Q1.0 D3", 3);
        dueWrong(1, "Q1.10 D3", 4);
        dueWrong(1, "Q1.12345 D3", 7);
        dueWrong(1, "Q1.12305 D3", 7);
        dueWrong(1, "Q1.1230 D3", 6);
        dueWrong(1, "Q1A D3", 2);
        dueWrong(1, "Q1", 2);
        dueWrong(1, "@1 D3", 0);
        dueWrong(1, "[1 D3", 0);
    }

    private static void readCutter(int scheme) {
        dueRead(scheme, "800 S05", 2);
        dueRead(scheme, "800 Z000001", 2);
        dueWrong(scheme, "800 s5", 4);
        dueWrong(scheme, "800 5", 4);
        dueWrong(scheme, "800 S", 5);
        dueWrong(scheme, "800 S ", 5);
        dueWrong(scheme, "800 SS5", 5);
        dueWrong(scheme, "800 S0", 5);
        dueWrong(scheme, "800 S50", 6);
        dueWrong(scheme, "800 S123450", 10);
        dueWrong(scheme, "800 S1234567", 11);
        dueWrong(scheme, "800 S1234507", 11);
        dueWrong(scheme, "800 S5.1", 6);
        dueWrong(scheme, "800 S5a", 6);
        dueWrong(scheme, "800 S5 ", 7);
        dueWrong(scheme, "800 S5  1987", 7);
        dueWrong(scheme, "800 S5 S5", 7);
    }

    private static void readRest(int scheme) {
        dueRead(scheme, "800 S5 1000", 3);
        dueRead(scheme, "800 S5 v.1", 3);
        dueRead(scheme, "800 S5 v.9999a", 3);
        dueRead(scheme, "800 S5 v", 3);
        dueRead(scheme, "800 S5 vv", 3);
        dueRead(scheme, "800 S5 v.1 v", 4);
        dueRead(scheme, "800 S5 1987 a", 4);
        dueRead(scheme, "800 S5 1987 v.1", 4);
        dueRead(scheme, "800 S5 1987 v.1a vol", 5);
        dueWrong(scheme, "800 S5 0987", 7);
        dueWrong(scheme, "800 S5 198", 10);
        dueWrong(scheme, "800 S5 198 v.1", 10);
        dueWrong(scheme, "800 S5 19870", 11);
        dueWrong(scheme, "800 S5 1987a", 11);
        dueWrong(scheme, "800 S5 1987 ", 12);
        dueWrong(scheme, "800 S5 1987 1988", 12);
        dueWrong(scheme, "800 S5 v.", 9);
        dueWrong(scheme, "800 S5 v.a", 9);
        dueWrong(scheme, "800 S5 v.0", 9);
        dueWrong(scheme, "800 S5 v.01", 9);
        dueWrong(scheme, "800 S5 v.12345", 13);
        dueWrong(scheme, "800 S5 v.1ab", 11);
        dueWrong(scheme, "800 S5 v.1a1", 11);
        dueWrong(scheme, "800 S5 v.1A", 10);
        dueWrong(scheme, "800 S5 v.1 1987", 11);
        dueWrong(scheme, "800 S5 v.1 v.2", 11);
        dueWrong(scheme, "800 S5 vv.1", 9);
        dueWrong(scheme, "800 S5 u.1", 8);
        dueWrong(scheme, "800 S5 V.1", 7);
        dueWrong(scheme, "800 S5 abcdefghi", 15);
        dueWrong(scheme, "800 S5 abcA", 10);
        dueWrong(scheme, "800 S5 abc ", 11);
        dueWrong(scheme, "800 S5 abc def", 11);
        dueWrong(scheme, "800 S5 abc v.1", 11);
        dueWrong(scheme, "800 S5 abc  ", 11);
        dueWrong(scheme, "800 S5 {", 7);
        dueWrong(scheme, "800 S5 `", 7);
    }

    private static void readKeeps(int scheme) {
        Desk x = new Desk(scheme);
        due("read()", x.read("800.3 S5"), 2);
        due("read() of nothing", x.read(), -1);
        due("part(1) behind a wrong read()", x.part(1), 500000);
        due("read() of a wrong one", Math.max(x.read("100 T7 19"), -1), -1);
        due("part(0) behind a wrong read()", x.part(0), scheme == 0 ? 800300000000L : 83000);
        due("part(1) behind a wrong read()", x.part(1), 500000);
        due("part(2) behind a wrong read()", x.part(2), 0);
        due("spine(0) behind a wrong read()", x.spine(0), scheme == 0 ? 5 : 1);
        due("spine(3) behind a wrong read()", x.spine(3), NONE);
        due("read() of another", x.read("100 T7"), 2);
        due("part(0) of another", x.part(0), scheme == 0 ? 100000000000L : 10000);
    }

    // Promise 4
    private static void dueParts(Desk x, long... want) {
        for (int k = 0; k < want.length; k++) {
            due("part(" + k + ")", x.part(k), want[k]);
        }
    }

    private static void partsDecimal() {
        Desk x = new Desk(0);
        x.with("822.33 S527 1987 v.12b large");
        dueParts(x, 822330000000L, 527000, 1987, 12, 5, THROWS, THROWS);
        due("part(-1)", x.part(-1), THROWS);
        due("part(least)", x.part(Integer.MIN_VALUE), THROWS);
        due("part(greatest)", x.part(Integer.MAX_VALUE), THROWS);
        x.with("001.000000009 A000001");
        dueParts(x, 1000000009L, 1, 0, 0, 0);
        x.with("999.999999999 Z999999 9999 v.9999z zzzzzzzz");
        dueParts(x, 999999999999L, 999999, 9999, 9999, 8);
        x.with("000 A01 v.7");
        dueParts(x, 0, 10000, 0, 7, 0);
    }

    private static void partsLettered() {
        Desk y = new Desk(1);
        dueParts(y, THROWS, THROWS, THROWS, THROWS, THROWS, THROWS);
        y.with("QA76.9 D3 v");
        dueParts(y, 769000, 300000, 0, 0, 1);
        y.with("Q9999.0001 D3 1000");
        dueParts(y, 99990001, 300000, 1000, 0, 0);
        y.with("QAB5 D3");
        dueParts(y, 50000, 300000, 0, 0, 0);
    }

    // Promise 5
    private static void dueLetters(Desk x, String want) {
        for (int k = 0; k < want.length(); k++) {
            due("letter(" + k + ")", x.letter(k), want.charAt(k));
        }
        due("letter past the last", x.letter(want.length()), 0);
        due("letter(5)", x.letter(5), 0);
        due("letter(-1)", x.letter(-1), 0);
        due("letter(least)", x.letter(Integer.MIN_VALUE), 0);
        due("letter(greatest)", x.letter(Integer.MAX_VALUE), 0);
    }

    private static void letters() {
        Desk x = new Desk(0);
        x.with("822 S5 mark");
        dueLetters(x, "S");
        Desk y = new Desk(1);
        dueLetters(y, "");
        y.with("Q1 D3 v.1a mark");
        dueLetters(y, "QD");
        y.with("QA1 E3");
        dueLetters(y, "QAE");
        y.with("ZXY1 A3");
        dueLetters(y, "ZXYA");
    }

    // Promise 6
    private static void put(int scheme) {
        Desk x = new Desk(scheme);
        due("put of the first", x.put("500 M5", 1), 0);
        due("put of it again", x.put(2), -2);
        due("its record stays", x.shelf(0), 1);
        due("put behind it", x.put("500 M6", 3), 1);
        due("put in front", x.put("400.9 Z9", -1), 0);
        due("put between", x.put("500 M5 1999", 1), 2);
        due("put of the last again", x.put("500 M6", 9), -5);
        due("put of the first again", x.put("400.9 Z9", 9), -2);
        int[] want = {-1, 1, 1, 3, NONE};
        for (int k = 0; k < want.length; k++) {
            due("shelf(" + k + ")", x.shelf(k), want[k]);
        }
    }

    private static void putFull(int scheme) {
        Desk x = new Desk(scheme);
        for (int k = 0; k < 60; k++) {
            String text = "100 " + (char) ('Z' - k / 9) + (9 - k % 9);
            due("put of '" + text + "' on the shelf that fills", x.put(text, 100 + k), 0);
        }
        due("put on the full shelf", x.put("100 A1", 7), NONE);
        due("before() on the full shelf", x.before(), 0);
        due("shelf(59) of the full shelf", x.shelf(59), 100);
        due("shelf(60) of the full shelf", x.shelf(60), NONE);
        due("put of the same on the full shelf", x.put("100 Z9", 7), -61);
        due("take(59)", x.take(59), 100);
        due("put where there is room again", x.put(7), 59);
        due("put of it again on the full shelf", x.put(8), -61);
    }

    // Promises 7 and 8
    private static void shelfAndTake(int scheme) {
        Desk x = new Desk(scheme);
        x.put("100 A1", 10);
        x.put("200 A1", -1);
        x.put("300 A1", Integer.MIN_VALUE);
        int[] outside = {-1, 3, 60, Integer.MIN_VALUE, Integer.MAX_VALUE};
        for (int place : outside) {
            due("shelf(" + place + ")", x.shelf(place), NONE);
            due("take(" + place + ")", x.take(place), NONE);
        }
        due("shelf(1) with that record", x.shelf(1), -1);
        due("shelf(2)", x.shelf(2), Integer.MIN_VALUE);
        due("take(1) with that record", x.take(1), -1);
        due("shelf(0) behind take", x.shelf(0), 10);
        due("shelf(1) behind take", x.shelf(1), Integer.MIN_VALUE);
        due("shelf(2) behind take", x.shelf(2), NONE);
        due("the latest stays behind take", x.part(1), 100000);
        due("take(0)", x.take(0), 10);
        due("take(0)", x.take(0), Integer.MIN_VALUE);
        due("take(0) of none", x.take(0), NONE);
        due("put of what was taken", x.put(5), 0);
        due("shelf(0)", x.shelf(0), 5);
    }

    // ORDER, by compare, put and before
    private static void dueOrder(int scheme, String... inOrder) {
        Desk x = new Desk(scheme);
        for (int k = 0; k < inOrder.length; k++) {
            int turn = k % 2 == 0 ? k / 2 : inOrder.length - 1 - k / 2;
            x.put(inOrder[turn], turn);
        }
        for (int k = 0; k < inOrder.length; k++) {
            due("place of " + inOrder[k], x.shelf(k), k);
            for (int m = 0; m < inOrder.length; m++) {
                due("compare(" + k + ", " + m + ")", x.compare(k, m), Integer.compare(k, m));
            }
        }
    }

    private static void orderDecimal() {
        dueOrder(0, "000 Z9", "001 A1", "010 A1", "010.01 A1", "010.1 A1", "010.101 A1", "010.11 A1",
                "010.2 A1", "011 A1", "999.999999999 A1");
    }

    private static void orderLettered() {
        dueOrder(1, "A9999.9999 Z9", "AA1 A1", "AAA1 A1", "AAB1 A1", "AB1 A1", "B1 A1", "B2 A1",
                "B10 A1", "B10.01 A1", "B10.1 A1", "B10.11 A1", "B10.2 A1", "B11 A1", "ZZZ1 A1");
    }

    private static void orderBehindClasses(int scheme) {
        dueOrder(scheme, "500 A5", "500 A51", "500 B05", "500 B4", "500 B401", "500 B41",
                "500 B5 1999 v.1", "500 C1");
        dueOrder(scheme, "500 A5", "500 A5 a", "500 A5 ab", "500 A5 b", "500 A5 v.1", "500 A5 v.1 z",
                "500 A5 v.1a", "500 A5 v.1a b", "500 A5 v.1b a", "500 A5 v.2", "500 A5 v.10",
                "500 A5 1000");
        dueOrder(scheme, "500 A5 zzzzzzzz", "500 A5 v.999z", "500 A5 v.1000", "500 A5 1000",
                "500 A5 1000 z", "500 A5 1000 v.1", "500 A5 9999", "500 A51");
    }

    // Promise 9
    private static void compare(int scheme) {
        Desk x = new Desk(scheme);
        due("compare on no shelf", x.compare(0, 0), -2);
        x.put("100 D3", 1);
        x.put("100 D4", 1);
        due("compare(0, 0)", x.compare(0, 0), 0);
        due("compare(1, 1)", x.compare(1, 1), 0);
        due("compare(0, 1)", x.compare(0, 1), -1);
        due("compare(1, 0)", x.compare(1, 0), 1);
        int[] outside = {-1, 2, 60, Integer.MIN_VALUE, Integer.MAX_VALUE};
        for (int place : outside) {
            due("compare(0, " + place + ")", x.compare(0, place), -2);
            due("compare(" + place + ", 0)", x.compare(place, 0), -2);
            due("compare(" + place + ", " + place + ")", x.compare(place, place), -2);
        }
    }

    // Promise 10
    private static void before(int scheme) {
        Desk x = new Desk(scheme);
        due("before() without one", x.before(), NONE);
        due("before() on no shelf", x.with("500 M5").before(), 0);
        x.put(1);
        due("before() of what is there", x.before(), 0);
        x.put("400 M5", 2);
        x.put("600 M5", 3);
        due("before() of the last", x.before(), 2);
        due("before() of what is not there", x.with("500 M5 a").before(), 2);
        due("before() behind all", x.with("900.9 Z9").before(), 3);
        x.take(0);
        due("before() behind take", x.before(), 2);
    }

    // Promise 11
    private static int free(Desk x, String text) {
        return x.with(text).free();
    }

    private static void free(int scheme) {
        Desk x = new Desk(scheme);
        due("free() without one", x.free(), 0);
        due("free() on no shelf", free(x, "500 M05"), 5);
        due("free() of 000001", free(x, "500 M000001"), 1);
        x.put("500 M05 1999 v.1 a", 1);
        due("free() with a 0 first", free(x, "500 M05"), 51);
        due("free() of another cutter", free(x, "500 M5"), 5);
        due("free() of another capital", free(x, "500 N05"), 5);
        due("free() of another class", free(x, "500.1 M05"), 5);
        x.put("500 M051", 1);
        x.put("500 M053", 1);
        due("free() between", free(x, "500 M05 2000"), 52);
        x.put("500 M052", 1);
        due("free() behind three", free(x, "500 M05"), 54);
        x.take(0);
        due("free() of what was taken", x.free(), 5);
    }

    private static void freeOfOtherClasses() {
        Desk y = new Desk(1);
        y.put("QA1 D3", 1);
        due("free() of the letters", free(y, "QA1 D3"), 31);
        due("free() of other letters", free(y, "QB1 D3"), 3);
        due("free() of fewer letters", free(y, "Q1 D3"), 3);
        due("free() of another number", free(y, "QA2 D3"), 3);
        due("free() of another fraction", free(y, "QA1.1 D3"), 3);
    }

    private static void freeRunsOut(int scheme) {
        Desk x = new Desk(scheme);
        x.put("100 D123456", 1);
        due("free() of six digits", x.free(), 0);
        x.put("100 D12345", 1);
        for (int k = 1; k <= 9; k++) {
            due("free() of five digits", free(x, "100 D12345"), k == 6 ? 123457 : 123450 + k);
            x.put("100 D12345" + k, 1);
        }
        due("free() of five digits, none free", free(x, "100 D12345"), 0);
        Desk y = new Desk(scheme);
        y.put("100 D3", 1);
        for (int k = 1; k <= 9; k++) {
            y.put("100 D3" + k, 1);
        }
        due("free() with two more", free(y, "100 D3"), 311);
        for (int k = 311; k <= 319; k++) {
            y.put("100 D" + k, 1);
        }
        due("free() leaves 20 out", free(y, "100 D3"), 321);
    }

    // Promise 12
    private static void dueLines(Desk x, int... want) {
        for (int k = 0; k < want.length; k++) {
            due("spine(" + k + ")", x.spine(k), want[k]);
        }
        due("spine past the last", x.spine(want.length), NONE);
        due("spine(7)", x.spine(7), NONE);
        due("spine(-1)", x.spine(-1), NONE);
        due("spine(least)", x.spine(Integer.MIN_VALUE), NONE);
        due("spine(greatest)", x.spine(Integer.MAX_VALUE), NONE);
    }

    private static void spine() {
        Desk x = new Desk(0);
        dueLines(x);
        x.with("822 S5");
        dueLines(x, 3, 2);
        x.with("822.33 S527 1987 v.12b large");
        dueLines(x, 6, 4, 4, 5, 5);
        x.with("822.123456789 S123456 v.1 abcdefgh");
        dueLines(x, 13, 7, 3, 8);
        x.with("822 S5 a");
        dueLines(x, 3, 2, 1);
        Desk y = new Desk(1);
        dueLines(y);
        y.with("Q1 D3");
        dueLines(y, 1, 1, 2);
        y.with("QAB9999.9999 D34 1987 v.1234a mark");
        dueLines(y, 3, 9, 3, 4, 7, 4);
        y.with("QA76.9 D3 v.2a");
        dueLines(y, 2, 4, 2, 4);
    }

    // Promise 13
    private static void pass(int scheme) {
        Desk x = new Desk(scheme);
        x.put("100 A1", 10);
        x.put("200 A1", 20);
        x.put("300 A1", 30);
        x.put("400 A1", 20);
        x.put("500 A1", -1);
        due("pass of none", x.pass(40), NONE);
        due("pass(20), none told", x.pass(20), 1);
        due("pass(30)", x.pass(30), 1);
        due("pass(20), the first counts", x.pass(20), 0);
        due("pass(20) again", x.pass(20), 1);
        due("pass(30)", x.pass(30), 1);
        due("pass(10)", x.pass(10), 0);
        due("pass(20) behind what was out of order", x.pass(20), 1);
        due("pass of none does not count", x.pass(40), NONE);
        due("pass(10) behind it", x.pass(10), 0);
        due("pass(-1) that is there", x.pass(-1), 1);
        due("pass(30) behind it", x.pass(30), 0);
    }

    /** Told is a call number: it is behind or before others wherever it has come to stand. */
    private static void passRemembers(int scheme) {
        Desk x = new Desk(scheme);
        x.put("300 A1", 30);
        x.put("500 A1", 50);
        due("pass(30)", x.pass(30), 1);
        x.put("100 A1", 10);
        x.put("200 A1", 20);
        due("pass(20) of what was put in front", x.pass(20), 0);
        due("pass(30)", x.pass(30), 1);
        due("take(2)", x.take(2), 30);
        due("pass(30) of what was taken", x.pass(30), NONE);
        due("pass(20) behind what was taken", x.pass(20), 0);
        due("pass(50)", x.pass(50), 1);
        due("take(2)", x.take(2), 50);
        x.put("600 A1", 60);
        due("pass(60) behind what was taken", x.pass(60), 1);
    }
}
