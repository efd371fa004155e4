/** For each promise of the document ordinary calls, the edges that it names, and wrong calls. */
public final class PromiseTests {
    private static final int NONE = -1;
    private static final long THROWS = Long.MIN_VALUE;

    private static int wrong = 0;

    private static void due(String call, long got, long want) {
        if (got != want) {
            wrong++;
            System.out.println(call + " answered " + told(got) + ", due is " + told(want));
        }
    }

    private static String told(long answer) {
        return answer == THROWS ? "throws.ArrayIndexOutOfBoundsException" : Long.toString(answer);
    }

    public static void main(String[] args) {
        newObject();
        signs();
        readDecimal();
        readLettered();
        readCutter();
        readRest();
        readKeeps();
        parts();
        letters();
        put();
        putFull();
        shelfAndTake();
        orderDecimal();
        orderLettered();
        compare();
        before();
        free();
        freeRunsOut();
        spine();
        pass();
        passRemembers();
        System.out.println(wrong == 0 ? "all answers are as due" : wrong + " answers are not as due");
        if (wrong != 0) {
            System.exit(1);
        }
    }

    private static int read(CallNumbers x, String text) {
        for (int k = 0; k < text.length(); k++) {
            x.sign(text.charAt(k));
        }
        return x.read();
    }

    private static int put(CallNumbers x, String text, int record) {
        due("read() of " + text, Math.min(read(x, text), 0), 0);
        return x.put(record);
    }

    private static long part(CallNumbers x, int i) {
        try {
            return x.part(i);
        } catch (ArrayIndexOutOfBoundsException e) {
            return THROWS;
        }
    }

    private static void dueRead(int scheme, String text, int want) {
        due("scheme " + scheme + ", read() of '" + text + "'", read(new CallNumbers(scheme), text), want);
    }

    /** The sign at this place is WRONG. */
    private static void dueWrong(int scheme, String text, int place) {
        dueRead(scheme, text, -1 - place);
    }

    // Promise 1
    private static void newObject() {
        int[] schemes = {Integer.MIN_VALUE, -1, 0, 1, 2, Integer.MAX_VALUE};
        for (int scheme : schemes) {
            boolean lettered = scheme >= 1;
            dueRead(scheme, "822 S5", lettered ? -1 : 2);
            dueRead(scheme, "QA76 D3", lettered ? 2 : -1);
            CallNumbers x = new CallNumbers(scheme);
            due("new: read()", x.read(), -1);
            due("new: part(0)", part(x, 0), THROWS);
            due("new: letter(0)", x.letter(0), 0);
            due("new: put(1)", x.put(1), NONE);
            due("new: shelf(0)", x.shelf(0), NONE);
            due("new: take(0)", x.take(0), NONE);
            due("new: compare(0, 0)", x.compare(0, 0), -2);
            due("new: before()", x.before(), NONE);
            due("new: free()", x.free(), 0);
            due("new: spine(0)", x.spine(0), NONE);
            due("new: pass(0)", x.pass(0), NONE);
            due("new: pass(-1)", x.pass(-1), NONE);
        }
    }

    // Promise 2
    private static void signs() {
        CallNumbers x = new CallNumbers(0);
        for (char c : "822 S5".toCharArray()) {
            x.sign(c + 256 * (c - 70));
        }
        due("read() of signs with higher bits", x.read(), 2);
        for (char c : "822 S5".toCharArray()) {
            x.sign(c | Integer.MIN_VALUE);
        }
        due("read() of signs below 0", x.read(), 2);
        x.sign(-1);
        due("read() of sign 255", x.read(), -1);
        read(x, "822 S5");
        for (int k = 0; k < 70; k++) {
            x.sign("822 S5".charAt(k % 6));
        }
        due("read() of 70 signs", x.read(), -11);
        due("read() of none behind 70", x.read(), -1);
        due("read() behind 70", read(x, "822 S5"), 2);
    }

    // Promise 3
    private static void readDecimal() {
        dueRead(0, "000 A1", 2);
        dueRead(0, "822.3 S5", 2);
        dueRead(0, "822.000000001 S5", 2);
        dueRead(0, "822.123456789 S123456 1987 v.1234z abcdefgh", 5);
        dueWrong(0, "", 0);
        dueWrong(0, " 822 S5", 0);
        dueWrong(0, "8", 1);
        dueWrong(0, "82 S5", 2);
        dueWrong(0, "822", 3);
        dueWrong(0, "8222 S5", 3);
        dueWrong(0, "822x", 3);
        dueWrong(0, "822.", 4);
        dueWrong(0, "822. S5", 4);
        dueWrong(0, "822..3 S5", 4);
        dueWrong(0, "822.0 S5", 4);
        dueWrong(0, "822.30 S5", 5);
        dueWrong(0, "822.300 S5", 6);
        dueWrong(0, "822.30x", 5);
        dueWrong(0, "822.30", 5);
        dueWrong(0, "822.123456780 S5", 12);
        dueWrong(0, "822.1234567891 S5", 13);
        dueWrong(0, "822.1234567890 S5", 13);
        dueWrong(0, "822.1234567801 S5", 13);
        dueWrong(0, "822 ", 4);
        dueWrong(0, "822  S5", 4);
        dueWrong(0, "822.3.4 S5", 5);
        dueWrong(0, "A22 S5", 0);
    }

    private static void readLettered() {
        dueRead(1, "Q1 D3", 2);
        dueRead(1, "QAZ9999.9999 D3", 2);
        dueRead(1, "Q10.01 D3", 2);
        dueWrong(1, "", 0);
        dueWrong(1, "q1 D3", 0);
        dueWrong(1, "1 D3", 0);
        dueWrong(1, "Q", 1);
        dueWrong(1, "Q D3", 1);
        dueWrong(1, "QABC1 D3", 3);
        dueWrong(1, "QAB D3", 3);
        dueWrong(1, "Q0 D3", 1);
        dueWrong(1, "Q01 D3", 1);
        dueWrong(1, "Q12345 D3", 5);
        dueWrong(1, "Q1.", 3);
        dueWrong(1, "Q1.0 D3", 3);
        dueWrong(1, "Q1.10 D3", 4);
        dueWrong(1, "Q1.12345 D3", 7);
        dueWrong(1, "Q1.12305 D3", 7);
        dueWrong(1, "Q1.1230 D3", 6);
        dueWrong(1, "Q1A D3", 2);
        dueWrong(1, "Q1", 2);
        dueWrong(1, "@1 D3", 0);
        dueWrong(1, "[1 D3", 0);
    }

    private static void readCutter() {
        dueRead(0, "822 S05", 2);
        dueRead(0, "822 Z000001", 2);
        dueWrong(0, "822 s5", 4);
        dueWrong(0, "822 5", 4);
        dueWrong(0, "822 S", 5);
        dueWrong(0, "822 S ", 5);
        dueWrong(0, "822 SS5", 5);
        dueWrong(0, "822 S0", 5);
        dueWrong(0, "822 S50", 6);
        dueWrong(0, "822 S123450", 10);
        dueWrong(0, "822 S1234567", 11);
        dueWrong(0, "822 S1234507", 11);
        dueWrong(0, "822 S5.1", 6);
        dueWrong(0, "822 S5a", 6);
        dueWrong(0, "822 S5 ", 7);
        dueWrong(0, "822 S5  1987", 7);
        dueWrong(0, "822 S5 S5", 7);
    }

    private static void readRest() {
        dueRead(0, "822 S5 1000", 3);
        dueRead(0, "822 S5 v.1", 3);
        dueRead(0, "822 S5 v.9999a", 3);
        dueRead(0, "822 S5 v", 3);
        dueRead(0, "822 S5 vv", 3);
        dueRead(0, "822 S5 v.1 v", 4);
        dueRead(0, "822 S5 1987 a", 4);
        dueRead(0, "822 S5 1987 v.1", 4);
        dueRead(0, "822 S5 1987 v.1a vol", 5);
        dueWrong(0, "822 S5 0987", 7);
        dueWrong(0, "822 S5 198", 10);
        dueWrong(0, "822 S5 198 v.1", 10);
        dueWrong(0, "822 S5 19870", 11);
        dueWrong(0, "822 S5 1987a", 11);
        dueWrong(0, "822 S5 1987 ", 12);
        dueWrong(0, "822 S5 1987 1988", 12);
        dueWrong(0, "822 S5 v.", 9);
        dueWrong(0, "822 S5 v.a", 9);
        dueWrong(0, "822 S5 v.0", 9);
        dueWrong(0, "822 S5 v.01", 9);
        dueWrong(0, "822 S5 v.12345", 13);
        dueWrong(0, "822 S5 v.1ab", 11);
        dueWrong(0, "822 S5 v.1a1", 11);
        dueWrong(0, "822 S5 v.1A", 10);
        dueWrong(0, "822 S5 v.1 1987", 11);
        dueWrong(0, "822 S5 v.1 v.2", 11);
        dueWrong(0, "822 S5 vv.1", 9);
        dueWrong(0, "822 S5 u.1", 8);
        dueWrong(0, "822 S5 V.1", 7);
        dueWrong(0, "822 S5 abcdefghi", 15);
        dueWrong(0, "822 S5 abcA", 10);
        dueWrong(0, "822 S5 abc ", 11);
        dueWrong(0, "822 S5 abc def", 11);
        dueWrong(0, "822 S5 abc v.1", 11);
        dueWrong(0, "822 S5 abc  ", 11);
        dueWrong(0, "822 S5 {", 7);
        dueWrong(0, "822 S5 `", 7);
    }

    private static void readKeeps() {
        CallNumbers x = new CallNumbers(0);
        due("read()", read(x, "822.3 S5"), 2);
        due("read() of nothing", x.read(), -1);
        due("part(0) behind a wrong read()", part(x, 0), 822300000000L);
        due("read() of a wrong one", read(x, "123 T7 19"), -10);
        due("part(0) behind a wrong read()", part(x, 0), 822300000000L);
        due("part(1) behind a wrong read()", part(x, 1), 500000);
        due("part(2) behind a wrong read()", part(x, 2), 0);
        due("spine(0) behind a wrong read()", x.spine(0), 5);
        due("spine(2) behind a wrong read()", x.spine(2), NONE);
        due("read() of another", read(x, "123 T7"), 2);
        due("part(0) of another", part(x, 0), 123000000000L);
    }

    // Promise 4
    private static void dueParts(CallNumbers x, long... want) {
        for (int k = 0; k < want.length; k++) {
            due("part(" + k + ")", part(x, k), want[k]);
        }
    }

    private static void parts() {
        CallNumbers x = new CallNumbers(0);
        read(x, "822.33 S527 1987 v.12b large");
        dueParts(x, 822330000000L, 527000, 1987, 12, 5, THROWS, THROWS);
        due("part(-1)", part(x, -1), THROWS);
        due("part(least)", part(x, Integer.MIN_VALUE), THROWS);
        due("part(greatest)", part(x, Integer.MAX_VALUE), THROWS);
        read(x, "001.000000009 A000001");
        dueParts(x, 1000000009L, 1, 0, 0, 0);
        read(x, "999.999999999 Z999999 9999 v.9999z zzzzzzzz");
        dueParts(x, 999999999999L, 999999, 9999, 9999, 8);
        read(x, "000 A01 v.7");
        dueParts(x, 0, 10000, 0, 7, 0);
        CallNumbers y = new CallNumbers(1);
        dueParts(y, THROWS, THROWS, THROWS, THROWS, THROWS, THROWS);
        read(y, "QA76.9 D3 v");
        dueParts(y, 769000, 300000, 0, 0, 1);
        read(y, "Q9999.0001 D3 1000");
        dueParts(y, 99990001, 300000, 1000, 0, 0);
        read(y, "QAB5 D3");
        dueParts(y, 50000, 300000, 0, 0, 0);
    }

    // Promise 5
    private static void dueLetters(CallNumbers x, String want) {
        for (int k = 0; k < want.length(); k++) {
            due("letter(" + k + ")", x.letter(k), want.charAt(k));
        }
        due("letter past the last", x.letter(want.length()), 0);
        due("letter(5)", x.letter(5), 0);
        due("letter(-1)", x.letter(-1), 0);
        due("letter(least)", x.letter(Integer.MIN_VALUE), 0);
        due("letter(greatest)", x.letter(Integer.MAX_VALUE), 0);
    }

    private static void letters() {
        CallNumbers x = new CallNumbers(0);
        read(x, "822 S5 mark");
        dueLetters(x, "S");
        CallNumbers y = new CallNumbers(1);
        dueLetters(y, "");
        read(y, "Q1 D3 v.1a mark");
        dueLetters(y, "QD");
        read(y, "QA1 E3");
        dueLetters(y, "QAE");
        read(y, "ZXY1 A3");
        dueLetters(y, "ZXYA");
    }

    // Promise 6
    private static void put() {
        CallNumbers x = new CallNumbers(0);
        due("put of the first", put(x, "500 M5", 1), 0);
        due("put of it again", x.put(2), -2);
        due("its record stays", x.shelf(0), 1);
        due("put behind it", put(x, "500 M6", 3), 1);
        due("put in front", put(x, "499.9 Z9", -1), 0);
        due("put between", put(x, "500 M5 1999", 1), 2);
        due("put of the last again", put(x, "500 M6", 9), -5);
        due("put of the first again", put(x, "499.9 Z9", 9), -2);
        int[] want = {-1, 1, 1, 3, NONE};
        for (int k = 0; k < want.length; k++) {
            due("shelf(" + k + ")", x.shelf(k), want[k]);
        }
    }

    private static void putFull() {
        CallNumbers x = new CallNumbers(1);
        for (int k = 0; k < 60; k++) {
            char capital = (char) ('Z' - k / 9);
            String text = new StringBuilder("Q1 ").append(capital).append(9 - k % 9).toString();
            due("put on the shelf that fills", put(x, text, 100 + k), 0);
        }
        due("put on the full shelf", put(x, "Q1 A1", 7), NONE);
        due("before() on the full shelf", x.before(), 0);
        due("shelf(59) of the full shelf", x.shelf(59), 100);
        due("shelf(60) of the full shelf", x.shelf(60), NONE);
        due("put of the same on the full shelf", put(x, "Q1 Z9", 7), -61);
        due("take(59)", x.take(59), 100);
        due("put where there is room again", x.put(7), 59);
        due("put on the shelf that is full again", put(x, "Q1 A1", 7), NONE);
    }

    // Promises 7 and 8
    private static void shelfAndTake() {
        CallNumbers x = new CallNumbers(0);
        put(x, "100 A1", 10);
        put(x, "200 A1", -1);
        put(x, "300 A1", Integer.MIN_VALUE);
        int[] outside = {-1, 3, 60, Integer.MIN_VALUE, Integer.MAX_VALUE};
        for (int place : outside) {
            due("shelf(" + place + ")", x.shelf(place), NONE);
            due("take(" + place + ")", x.take(place), NONE);
        }
        due("shelf(1) with that record", x.shelf(1), -1);
        due("shelf(2)", x.shelf(2), Integer.MIN_VALUE);
        due("take(1) with that record", x.take(1), -1);
        due("shelf(0) behind take", x.shelf(0), 10);
        due("shelf(1) behind take", x.shelf(1), Integer.MIN_VALUE);
        due("shelf(2) behind take", x.shelf(2), NONE);
        due("the latest stays behind take", part(x, 0), 300000000000L);
        due("take(0)", x.take(0), 10);
        due("take(0)", x.take(0), Integer.MIN_VALUE);
        due("take(0) of none", x.take(0), NONE);
        due("put of what was taken", x.put(5), 0);
        due("shelf(0)", x.shelf(0), 5);
    }

    // ORDER, by compare, put and before
    private static void dueOrder(int scheme, String... inOrder) {
        CallNumbers x = new CallNumbers(scheme);
        for (int k = 0; k < inOrder.length; k++) {
            int turn = k % 2 == 0 ? k / 2 : inOrder.length - 1 - k / 2;
            put(x, inOrder[turn], turn);
        }
        for (int k = 0; k < inOrder.length; k++) {
            due("place of " + inOrder[k], x.shelf(k), k);
            for (int m = 0; m < inOrder.length; m++) {
                due("compare(" + k + ", " + m + ")", x.compare(k, m), Integer.compare(k, m));
            }
        }
    }

    private static void orderDecimal() {
        dueOrder(0, "000 Z9", "001 A1", "010 A1", "010.01 A1", "010.1 A1", "010.101 A1", "010.11 A1",
                "010.2 A1", "011 A1", "999.999999999 A1");
        dueOrder(0, "500 A5", "500 A51", "500 B05", "500 B4", "500 B401", "500 B41", "500 B5 1999 v.1",
                "500 C1");
        dueOrder(0, "500 A5", "500 A5 a", "500 A5 ab", "500 A5 b", "500 A5 v.1", "500 A5 v.1 z",
                "500 A5 v.1a", "500 A5 v.1a b", "500 A5 v.1b a", "500 A5 v.2", "500 A5 v.10",
                "500 A5 1000", "500 A5 1000 z", "500 A5 1000 v.1", "500 A5 9999", "500 A51");
    }

    private static void orderLettered() {
        dueOrder(1, "A9999.9999 Z9", "AA1 A1", "AAA1 A1", "AAB1 A1", "AB1 A1", "B1 A1", "B2 A1",
                "B10 A1", "B10.01 A1", "B10.1 A1", "B10.11 A1", "B10.2 A1", "B11 A1", "ZZZ1 A1");
        dueOrder(1, "Q1 D3", "Q1 D3 abcdefgh", "Q1 D3 zz", "Q1 D3 zzzzzzzy", "Q1 D3 zzzzzzzz",
                "Q1 D3 v.999z", "Q1 D3 v.1000", "Q1 D3 1999 v.2", "Q1 D3 2000 v.1");
    }

    // Promise 9
    private static void compare() {
        CallNumbers x = new CallNumbers(1);
        due("compare on no shelf", x.compare(0, 0), -2);
        put(x, "Q1 D3", 1);
        put(x, "Q1 D4", 1);
        due("compare(0, 0)", x.compare(0, 0), 0);
        due("compare(1, 1)", x.compare(1, 1), 0);
        due("compare(0, 1)", x.compare(0, 1), -1);
        due("compare(1, 0)", x.compare(1, 0), 1);
        int[] outside = {-1, 2, 60, Integer.MIN_VALUE, Integer.MAX_VALUE};
        for (int place : outside) {
            due("compare(0, " + place + ")", x.compare(0, place), -2);
            due("compare(" + place + ", 0)", x.compare(place, 0), -2);
            due("compare(" + place + ", " + place + ")", x.compare(place, place), -2);
        }
    }

    // Promise 10
    private static void before() {
        CallNumbers x = new CallNumbers(0);
        due("before() without one", x.before(), NONE);
        read(x, "500 M5");
        due("before() on no shelf", x.before(), 0);
        x.put(1);
        due("before() of what is there", x.before(), 0);
        put(x, "400 M5", 2);
        put(x, "600 M5", 3);
        due("before() of the last", x.before(), 2);
        read(x, "500 M5 a");
        due("before() of what is not there", x.before(), 2);
        read(x, "999 Z9");
        due("before() behind all", x.before(), 3);
        x.take(0);
        due("before() behind take", x.before(), 2);
    }

    // Promise 11
    private static int free(CallNumbers x, String text) {
        due("read() of " + text, Math.min(read(x, text), 0), 0);
        return x.free();
    }

    private static void free() {
        CallNumbers x = new CallNumbers(0);
        due("free() without one", x.free(), 0);
        due("free() on no shelf", free(x, "500 M05"), 5);
        due("free() of 000001", free(x, "500 M000001"), 1);
        put(x, "500 M05 1999 v.1 a", 1);
        due("free() with a 0 first", free(x, "500 M05"), 51);
        due("free() of another cutter", free(x, "500 M5"), 5);
        due("free() of another capital", free(x, "500 N05"), 5);
        due("free() of another class", free(x, "500.1 M05"), 5);
        put(x, "500 M051", 1);
        put(x, "500 M053", 1);
        due("free() between", free(x, "500 M05 2000"), 52);
        put(x, "500 M052", 1);
        due("free() behind three", free(x, "500 M05"), 54);
        x.take(0);
        due("free() of what was taken", x.free(), 5);
        CallNumbers y = new CallNumbers(1);
        put(y, "QA1 D3", 1);
        due("free() of the letters", free(y, "QA1 D3"), 31);
        due("free() of other letters", free(y, "QB1 D3"), 3);
        due("free() of fewer letters", free(y, "Q1 D3"), 3);
        due("free() of another number", free(y, "QA2 D3"), 3);
        due("free() of another fraction", free(y, "QA1.1 D3"), 3);
    }

    private static void freeRunsOut() {
        CallNumbers x = new CallNumbers(1);
        put(x, "Q1 D123456", 1);
        due("free() of six digits", x.free(), 0);
        put(x, "Q1 D12345", 1);
        for (int k = 1; k <= 9; k++) {
            due("free() of five digits", free(x, "Q1 D12345"), k == 6 ? 123457 : 123450 + k);
            put(x, "Q1 D12345" + k, 1);
        }
        due("free() of five digits, none free", free(x, "Q1 D12345"), 0);
        CallNumbers y = new CallNumbers(1);
        put(y, "Q1 D3", 1);
        for (int k = 1; k <= 9; k++) {
            put(y, "Q1 D3" + k, 1);
        }
        due("free() with two more", free(y, "Q1 D3"), 311);
        for (int k = 311; k <= 319; k++) {
            put(y, "Q1 D" + k, 1);
        }
        due("free() leaves 20 out", free(y, "Q1 D3"), 321);
        CallNumbers z = new CallNumbers(1);
        put(z, "Q1 D1234", 1);
        for (int k = 1; k <= 9; k++) {
            put(z, "Q1 D1234" + k, 1);
        }
        due("free() of four digits", free(z, "Q1 D1234"), 123411);
    }

    // Promise 12
    private static void dueLines(CallNumbers x, int... want) {
        for (int k = 0; k < want.length; k++) {
            due("spine(" + k + ")", x.spine(k), want[k]);
        }
        due("spine past the last", x.spine(want.length), NONE);
        due("spine(7)", x.spine(7), NONE);
        due("spine(-1)", x.spine(-1), NONE);
        due("spine(least)", x.spine(Integer.MIN_VALUE), NONE);
        due("spine(greatest)", x.spine(Integer.MAX_VALUE), NONE);
    }

    private static void spine() {
        CallNumbers x = new CallNumbers(0);
        dueLines(x);
        read(x, "822 S5");
        dueLines(x, 3, 2);
        read(x, "822.33 S527 1987 v.12b large");
        dueLines(x, 6, 4, 4, 5, 5);
        read(x, "822.123456789 S123456 v.1 abcdefgh");
        dueLines(x, 13, 7, 3, 8);
        read(x, "822 S5 a");
        dueLines(x, 3, 2, 1);
        CallNumbers y = new CallNumbers(1);
        dueLines(y);
        read(y, "Q1 D3");
        dueLines(y, 1, 1, 2);
        read(y, "QAB9999.9999 D34 1987 v.1234a mark");
        dueLines(y, 3, 9, 3, 4, 7, 4);
        read(y, "QA76.9 D3 v.2a");
        dueLines(y, 2, 4, 2, 4);
    }

    // Promise 13
    private static void pass() {
        CallNumbers x = new CallNumbers(0);
        put(x, "100 A1", 10);
        put(x, "200 A1", 20);
        put(x, "300 A1", 30);
        put(x, "400 A1", 20);
        put(x, "500 A1", -1);
        due("pass of none", x.pass(40), NONE);
        due("pass(20), none told", x.pass(20), 1);
        due("pass(30)", x.pass(30), 1);
        due("pass(20), the first counts", x.pass(20), 0);
        due("pass(20) again", x.pass(20), 1);
        due("pass(30)", x.pass(30), 1);
        due("pass(10)", x.pass(10), 0);
        due("pass(20) behind what was out of order", x.pass(20), 1);
        due("pass of none does not count", x.pass(40), NONE);
        due("pass(10) behind it", x.pass(10), 0);
        due("pass(-1) that is there", x.pass(-1), 1);
        due("pass(30) behind it", x.pass(30), 0);
    }

    /** Told is a call number: it is behind or before others wherever it has come to stand. */
    private static void passRemembers() {
        CallNumbers x = new CallNumbers(0);
        put(x, "300 A1", 30);
        put(x, "500 A1", 50);
        due("pass(30)", x.pass(30), 1);
        put(x, "100 A1", 10);
        put(x, "200 A1", 20);
        due("pass(20) of what was put in front", x.pass(20), 0);
        due("pass(30)", x.pass(30), 1);
        due("take(2)", x.take(2), 30);
        due("pass(30) of what was taken", x.pass(30), NONE);
        due("pass(20) behind what was taken", x.pass(20), 0);
        due("pass(50)", x.pass(50), 1);
        due("take(2)", x.take(2), 50);
        put(x, "600 A1", 60);
        due("pass(60) behind what was taken", x.pass(60), 1);
    }
}
