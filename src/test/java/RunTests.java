/**
 * Written runs of many calls on one object, up to its 512th, in which the promises meet: on an empty
 * shelf, on a full one, and on one that fills and empties; each run in both schemes.
 */
public final class RunTests {
    private static final int MOST_CALLS = 512;

    public static void main(String[] args) {
        for (int scheme = 0; scheme <= 1; scheme++) {
            emptyShelf(scheme);
            emptyAgainAndAgain(scheme);
            fullShelf(scheme);
            fullShelfTakenAndPut(scheme);
            fillsAndEmpties(scheme);
            cutterAfterCutter(scheme);
            shelfThatIsChecked(scheme);
            severalVolumes(scheme);
        }
        Answers.end();
    }

    /**
     * A run is told in rows 'call = answer'; where the schemes answer differently 'call = answer in
     * scheme 0 | answer in scheme 1'. A text stands in quotes and is read whole.
     */
    private static final class Run {
        private final int scheme;
        private final Desk desk;

        Run(String name, int scheme) {
            this.scheme = scheme;
            desk = new Desk(scheme);
            Answers.about(name + ", scheme " + scheme);
        }

        int callsLeft() {
            return MOST_CALLS - desk.calls();
        }

        void rows(String rows) {
            rows.lines().forEach(this::row);
        }

        void row(String row) {
            int equals = row.lastIndexOf(" = ");
            String call = row.substring(0, equals);
            String[] answers = row.substring(equals + 3).split(" \\| ");
            long want = asAnswer(answers[Math.min(scheme, answers.length - 1)]);
            long got = ask(call);
            Answers.due("call " + desk.calls() + ", " + call, got, want);
        }

        private static long asAnswer(String word) {
            return switch (word) {
                case "throws" -> Answers.THROWS;
                case "NONE" -> CallNumbers.NONE;
                default -> Long.parseLong(word);
            };
        }

        private long ask(String call) {
            if (call.startsWith("read '")) {
                return desk.read(call.substring("read '".length(), call.length() - 1));
            }
            String[] words = call.split(" ");
            int a = words.length > 1 ? Integer.parseInt(words[1]) : 0;
            int b = words.length > 2 ? Integer.parseInt(words[2]) : 0;
            return switch (words[0]) {
                case "read" -> desk.read();
                case "part" -> desk.part(a);
                case "letter" -> desk.letter(a);
                case "put" -> desk.put(a);
                case "shelf" -> desk.shelf(a);
                case "take" -> desk.take(a);
                case "compare" -> desk.compare(a, b);
                case "before" -> desk.before();
                case "free" -> desk.free();
                case "spine" -> desk.spine(a);
                case "pass" -> desk.pass(a);
                default -> throw new IllegalArgumentException("no such call: " + call);
            };
        }
    }

    private static void emptyShelf(int scheme) {
        Run run = new Run("on an empty shelf", scheme);
        run.rows("""
                read = -1
                put 1 = NONE
                take 0 = NONE
                compare 0 0 = -2
                before = NONE
                free = 0
                spine 0 = NONE
                pass 1 = NONE
                part 0 = throws
                letter 0 = 0
                shelf 0 = NONE
                read '500 A1 ' = -8 | -7
                put 1 = NONE
                before = NONE
                free = 0
                part 1 = throws
                read '500.5 B25 1999 v.3c de' = 5
                part 0 = 500500000000 | 55000
                part 5 = throws
                letter 0 = 66 | 81
                letter 1 = 0 | 66
                before = 0
                free = 25
                spine 0 = 5 | 1
                spine 1 = 3
                spine 2 = 4 | 3
                spine 3 = 4
                spine 4 = 2 | 4
                spine 5 = NONE | 2
                spine 6 = NONE
                compare 0 0 = -2
                shelf 0 = NONE
                take 0 = NONE
                pass 1 = NONE
                pass -1 = NONE
                read '500.5 B250' = -10 | -9
                before = 0
                free = 25
                spine 1 = 3
                put 7 = 0
                take 0 = 7
                put 7 = 0
                pass 7 = 1
                take 0 = 7
                pass 7 = NONE
                read '400 B2' = 2
                put 7 = 0
                pass 7 = 0
                take 0 = 7
                shelf 0 = NONE
                compare 0 0 = -2
                before = 0
                free = 2
                """);
    }

    /** The same rows until the calls are used up: nothing may be left over from the rows before. */
    private static void emptyAgainAndAgain(int scheme) {
        Run run = new Run("empty again and again", scheme);
        run.row("read '900 Z9 2000' = 3");
        String rows = """
                take 0 = NONE
                before = 0
                free = 9
                put 3 = 0
                put 4 = -2
                before = 0
                free = 91
                pass 3 = 1
                compare 0 0 = 0
                shelf 0 = 3
                shelf 1 = NONE
                spine 2 = 4 | 2
                take 1 = NONE
                take 0 = 3
                pass 3 = NONE
                part 2 = 2000
                read = -1
                """;
        while (run.callsLeft() >= rows.lines().count()) {
            run.rows(rows);
        }
        while (run.callsLeft() > 1) {
            run.row("shelf 0 = NONE");
        }
        run.row("put 3 = 0");
    }

    /** The cutter of the one that has this place on the full shelf: B1, B2, .. H6. */
    private static String cutterAt(int place) {
        return "" + "BCDEFGH".charAt(place / 9) + (1 + place % 9);
    }

    /** Fills the shelf in leaps, so that most come in between others; the records are 100 to 159. */
    private static Run filled(String name, int scheme) {
        Run run = new Run(name, scheme);
        boolean[] there = new boolean[60];
        for (int k = 0; k < there.length; k++) {
            int turn = k * 37 % there.length;
            int before = 0;
            for (int place = 0; place < turn; place++) {
                before += there[place] ? 1 : 0;
            }
            run.row("read '500 " + cutterAt(turn) + "' = 2");
            run.row("put " + (100 + turn) + " = " + before);
            there[turn] = true;
        }
        return run;
    }

    private static void fullShelf(int scheme) {
        Run run = filled("on a full shelf", scheme);
        run.rows("""
                put 1 = -25
                before = 23
                free = 61
                spine 1 = 2 | 1
                read '500 B1 a' = 3
                put 1 = NONE
                before = 1
                free = 11
                spine 2 = 1 | 2
                shelf 60 = NONE
                compare 0 59 = -1
                compare 59 59 = 0
                compare 59 60 = -2
                pass 159 = 1
                pass 100 = 0
                pass 1 = NONE
                pass 123 = 1
                part 4 = 1
                letter 0 = 66 | 81
                take 60 = NONE
                put 2 = NONE
                shelf 0 = 100
                shelf 59 = 159
                """);
    }

    private static void fullShelfTakenAndPut(int scheme) {
        Run run = filled("on a full shelf that is taken from", scheme);
        run.rows("""
                take 23 = 123
                free = 6
                before = 23
                compare 23 22 = 1
                shelf 59 = NONE
                pass 123 = NONE
                put 7 = 23
                put 8 = -25
                pass 7 = 1
                pass 122 = 0
                pass 124 = 1
                take 59 = 159
                take 0 = 100
                before = 22
                read '900 Z9' = 2
                before = 58
                put -1 = 58
                put -1 = -60
                shelf 58 = NONE
                pass -1 = 1
                pass 158 = 0
                compare 57 58 = -1
                take 58 = NONE
                shelf 57 = 158
                compare 57 58 = -2
                """);
    }

    /** The middle one is taken each time, so that the first and the last ones are left. */
    private static void fillsAndEmpties(int scheme) {
        Run run = new Run("a shelf that fills and empties", scheme);
        int most = 44;
        for (int k = 0; k < most; k++) {
            run.row("read '500 " + cutterAt(k) + "' = 2");
            run.row("put " + k + " = " + k);
        }
        for (int left = most; left > 0; left--) {
            int place = left / 2;
            run.row("compare 0 " + (left - 1) + " = " + (left == 1 ? 0 : -1));
            run.row("compare 0 " + left + " = -2");
            run.row("take " + place + " = " + (left % 2 == 0 ? most - place : place));
        }
        run.rows("""
                take 0 = NONE
                shelf 0 = NONE
                before = 0
                free = 8
                put 1 = 0
                compare 0 0 = 0
                pass 1 = 1
                """);
    }

    /** Each next call number has the cutter that free() tells; no digit 0 is ever told. */
    private static void cutterAfterCutter(int scheme) {
        Run run = new Run("cutter after cutter", scheme);
        int made = 0;
        for (int digits = 5; digits <= 529; digits++) {
            String text = Integer.toString(digits);
            if (!text.startsWith("5") || text.contains("0")) {
                continue;
            }
            run.row("read '100 A5' = 2");
            run.row("free = " + digits);
            run.row("read '100 A" + digits + "' = 2");
            run.row("put " + digits + " = " + placeAmongThoseBefore(digits));
            made++;
        }
        Answers.due("how many were made", made, 28);
        run.rows("""
                spine 1 = 4 | 1
                pass 5 = 1
                pass 51 = 1
                pass 511 = 1
                pass 529 = 1
                pass 52 = 0
                """);
    }

    /** 5 is first; of 51 to 59 each is behind its own beginnings and all with smaller digits. */
    private static int placeAmongThoseBefore(int digits) {
        int place = 0;
        for (int other = 5; other < digits; other++) {
            String text = Integer.toString(other);
            boolean there = text.startsWith("5") && !text.contains("0");
            if (there && text.compareTo(Integer.toString(digits)) < 0) {
                place++;
            }
        }
        return place;
    }

    /** All pairs of ten, told one after the other, while the places of the ten move. */
    private static void shelfThatIsChecked(int scheme) {
        Run run = new Run("a shelf that is checked", scheme);
        for (int k = 0; k < 10; k++) {
            run.row("read '500 " + cutterAt(k) + "' = 2");
            run.row("put " + k + " = " + k);
        }
        int told = 0;
        for (int a = 0; a < 10; a++) {
            for (int b = 0; b < 10; b++) {
                run.row("pass " + a + " = " + (told <= a ? 1 : 0));
                run.row("pass " + b + " = " + (a <= b ? 1 : 0));
                told = b;
            }
            run.row("pass 99 = NONE");
            run.row("read '500 A" + (9 - a) + "' = " + (a == 9 ? "-6 | -5" : "2"));
            run.row("put 9" + a + " = " + (a == 9 ? -2 : 0));
        }
        run.rows("""
                shelf 9 = 0
                shelf 18 = 9
                shelf 19 = NONE
                pass 90 = 0
                pass 98 = 0
                pass 97 = 1
                """);
    }

    private static void severalVolumes(int scheme) {
        Run run = new Run("several volumes of one class and cutter", scheme);
        run.rows("""
                read '500 A5 v.10' = 3
                put 10 = 0
                read '500 A5 v.9' = 3
                before = 0
                put 9 = 0
                read '500 A5 v.9a' = 3
                before = 1
                put 91 = 1
                read '500 A5 v.9a large' = 4
                before = 2
                put 92 = 2
                read '500 A5 large' = 3
                put 1 = 0
                read '500 A5 1999' = 3
                put 1999 = 5
                read '500 A5' = 2
                before = 0
                free = 51
                put 0 = 0
                put 0 = -2
                read '500 A5 1999 v.9a large' = 5
                before = 7
                free = 51
                put 1999 = 7
                read '500.1 A5 1999 v.9a large' = 5
                before = 8
                free = 5
                put 5001 = 8
                spine 0 = 5 | 1
                spine 3 = 4
                spine 4 = 5 | 4
                pass 0 = 1
                pass 1 = 1
                pass 9 = 1
                pass 91 = 1
                pass 92 = 1
                pass 10 = 1
                pass 1999 = 1
                pass 5001 = 1
                pass 1999 = 0
                take 6 = 1999
                pass 1999 = 1
                pass 10 = 0
                compare 2 1 = 1
                compare 2 3 = -1
                compare 8 7 = -2
                read '500 A5 v.9a largest' = 4
                before = 5
                read '500 A5 v.9a larg' = 4
                before = 4
                read '500 A5 v.9a large' = 4
                put 3 = -6
                take 4 = 92
                put 3 = 4
                take 7 = 5001
                free = 51
                take 0 = 0
                free = 51
                """);
    }
}
