import java.util.function.IntConsumer;

/**
 * One test for each sentence of the document that names a boundary case: the sentence stands with
 * the test that fails if it is broken. Where a sentence speaks of both schemes, so does its test.
 */
public final class BoundaryTests {
    private static final int NONE = CallNumbers.NONE;
    private static final int LEAST = Integer.MIN_VALUE;
    private static final int GREATEST = Integer.MAX_VALUE;
    private static final long THROWS = Answers.THROWS;
    private static final int[] NO_PLACES = {LEAST, -61, -2, -1, 60, 61, GREATEST};

    private static int sentences = 0;

    public static void main(String[] args) {
        parts();
        wrongSigns();
        order();
        readingPromises();
        shelfPromises();
        cutterSpineAndPassPromises();
        System.out.println(sentences + " sentences were asked for");
        Answers.end();
    }

    private static void parts() {
        both("What it is: at most 512 calls", BoundaryTests::the512thCall);
        test("The constants: NONE = -1", () -> due("NONE", CallNumbers.NONE, -1));
        both("PARTS with one space between", BoundaryTests::oneSpaceBetween);
        both("in this order, what there is of YEAR, VOLUME, MARK", BoundaryTests::whatThereIsInThisOrder);
        test("CLASS in scheme 0: three digits", BoundaryTests::threeDigits);
        test("scheme 0: a point and 1 to 9 digits", BoundaryTests::decimalFraction);
        test("scheme 0: the last of which is not 0", BoundaryTests::decimalFractionLast);
        test("CLASS in scheme 1: 1 to 3 capitals", BoundaryTests::classLetters);
        test("scheme 1: 1 to 4 digits", BoundaryTests::classNumber);
        test("scheme 1: (not 0 first)", BoundaryTests::classNumberFirst);
        test("scheme 1: a point and 1 to 4 digits", BoundaryTests::letteredFraction);
        test("scheme 1: the last of which is not 0", BoundaryTests::letteredFractionLast);
        both("CUTTER: a capital", BoundaryTests::cutterCapital);
        both("CUTTER: 1 to 6 digits", BoundaryTests::cutterDigits);
        both("CUTTER: the last of which is not 0", BoundaryTests::cutterLast);
        both("CUTTER: they count as digits behind a point", BoundaryTests::cutterCountsBehindAPoint);
        both("YEAR: four digits", BoundaryTests::yearDigits);
        both("YEAR: the first of which is not 0", BoundaryTests::yearFirst);
        both("VOLUME: v, a point", BoundaryTests::volumeBegins);
        both("VOLUME: 1 to 4 digits", BoundaryTests::volumeDigits);
        both("VOLUME: (not 0 first)", BoundaryTests::volumeFirst);
        both("VOLUME: perhaps one small letter", BoundaryTests::volumeLetter);
        both("MARK: 1 to 8 small letters", BoundaryTests::markLetters);
        both("MARK: not beginning v and a point", BoundaryTests::markNotVolume);
    }

    private static void wrongSigns() {
        both("WRONG is the first sign that does not fit", BoundaryTests::firstThatDoesNotFit);
        test("the text's end, if more is wanted", BoundaryTests::endIfMoreIsWanted);
        both("a part that is read on as far as its signs go", BoundaryTests::readOn);
        both("a digit too many is WRONG itself", BoundaryTests::digitTooMany);
        both("a last digit 0 is WRONG itself", BoundaryTests::lastDigitZero);
        both("a first one 0 that can't be is WRONG itself", BoundaryTests::firstDigitZero);
        both("behind a part a space and one of the parts that may come, or the end", BoundaryTests::behindAPart);
        both("a space behind any part is taken first", BoundaryTests::spaceIsTakenFirst);
    }

    private static void order() {
        test("ORDER: in scheme 0 the three digits", BoundaryTests::orderOfThreeDigits);
        test("ORDER: scheme 0, the digits behind the point (fewer before more)", BoundaryTests::orderOfDecimals);
        test("ORDER: in scheme 1 the letters (fewer before more)", BoundaryTests::orderOfClassLetters);
        test("ORDER: scheme 1, then the number", BoundaryTests::orderOfClassNumbers);
        test("ORDER: scheme 1, then the digits behind the point", BoundaryTests::orderOfLetteredFractions);
        both("ORDER: then by cutters: the capital", BoundaryTests::orderOfCapitals);
        both("ORDER: then its digits (fewer before more)", BoundaryTests::orderOfCutterDigits);
        both("ORDER: then YEAR (none before any)", BoundaryTests::orderOfYears);
        both("ORDER: VOLUME: none before any", BoundaryTests::orderOfNoVolume);
        both("ORDER: VOLUME by its number", BoundaryTests::orderOfVolumeNumbers);
        both("ORDER: VOLUME, then its letter (none before any)", BoundaryTests::orderOfVolumeLetters);
        both("ORDER: MARK (none before any)", BoundaryTests::orderOfNoMark);
        both("ORDER: MARK by letters, a beginning first", BoundaryTests::orderOfMarks);
        both("Two that are the same in all are the same", BoundaryTests::sameInAll);
        both("THE SHELF holds at most 60", BoundaryTests::atMostSixty);
        both("THE SHELF: no two the same", BoundaryTests::noTwoTheSame);
        both("THE SHELF: with a RECORD each, in ORDER", BoundaryTests::recordsInOrder);
    }

    private static void readingPromises() {
        test("Promise 1: below 0: 0", BoundaryTests::schemeBelow);
        test("Promise 1: above 1: 1", BoundaryTests::schemeAbove);
        both("Promise 1: nothing is collected", scheme -> due("read()", new Desk(scheme).read(), -1));
        both("Promise 1: no latest call number", BoundaryTests::noLatestAtFirst);
        both("Promise 1: the shelf is empty", BoundaryTests::emptyAtFirst);
        both("Promise 2: the lowest eight bits", BoundaryTests::lowestEightBits);
        both("Promise 2: beyond 60 it is lost", BoundaryTests::beyondSixty);
        both("Promise 3: nothing is collected any more", BoundaryTests::collectedNoMore);
        both("Promise 3: how many parts, it is the latest call number", BoundaryTests::howManyParts);
        both("Promise 3: -1 less the place if it is WRONG", BoundaryTests::lessThePlace);
        both("Promise 3: the latest one stays", BoundaryTests::latestStays);
        test("Promise 4: in scheme 0 filled up with zeros to twelve", BoundaryTests::classFilledUp);
        test("Promise 4: the number in front times 10000", BoundaryTests::letteredClassFilledUp);
        both("Promise 4: CUTTER: its digits filled up to six", BoundaryTests::cutterFilledUp);
        both("Promise 4: YEAR, VOLUME: its number; MARK: how many letters", BoundaryTests::laterParts);
        both("Promise 4: what is not there: 0", BoundaryTests::partsNotThere);
        both("Promise 4: ArrayIndexOutOfBoundsException for another part", BoundaryTests::anotherPart);
        both("Promise 4: ArrayIndexOutOfBoundsException without one", BoundaryTests::partWithoutOne);
        test("Promise 5: the CLASS's letters, then its cutter's capital", BoundaryTests::lettersThenCapital);
        test("Promise 5: 0 past these", BoundaryTests::pastTheLetters);
        both("Promise 5: 0 without one", BoundaryTests::letterWithoutOne);
    }

    private static void shelfPromises() {
        both("Promise 6: its place there, from 0 on", BoundaryTests::placeFromZeroOn);
        both("Promise 6: NONE if there is no latest one", BoundaryTests::putWithoutOne);
        both("Promise 6: -2 less the place of the same one", BoundaryTests::putOfTheSame);
        both("Promise 6: -2 less the place, though the shelf is full", BoundaryTests::putOfTheSameOnFull);
        both("Promise 6: NONE if the shelf is full", BoundaryTests::putOnFull);
        both("Promise 7: NONE if there is none", BoundaryTests::shelfOfNone);
        both("Promise 8: taken from the shelf: its RECORD", BoundaryTests::taken);
        both("Promise 8: NONE if there is none", BoundaryTests::takeOfNone);
        both("Promise 8: (or its record was that)", BoundaryTests::takeOfRecordNone);
        both("Promise 9: compared: -1, 0, 1", BoundaryTests::compared);
        both("Promise 9: -2 if one is not there", BoundaryTests::compareOfNone);
        both("Promise 10: how many are before", BoundaryTests::howManyBefore);
        both("Promise 10: NONE without one", BoundaryTests::beforeWithoutOne);
    }

    private static void cutterSpineAndPassPromises() {
        both("Promise 11: of that CLASS, whatever else that has", BoundaryTests::freeWhateverElse);
        test("Promise 11: with the latest call number's CLASS", BoundaryTests::freeOfOtherClasses);
        both("Promise 11: with the latest call number's capital", BoundaryTests::freeOfOtherCapitals);
        both("Promise 11: the latest one's digits", BoundaryTests::freeItself);
        both("Promise 11: one digit more, 1 to 9 in turn", BoundaryTests::freeOneMore);
        both("Promise 11: two more, 11, 12, .. 99 without a 0", BoundaryTests::freeTwoMore);
        both("Promise 11: six digits in all at most", BoundaryTests::freeSixAtMost);
        both("Promise 11: the digits of the first one as a number", BoundaryTests::freeAsNumber);
        both("Promise 11: 0 without a latest call number", BoundaryTests::freeWithoutOne);
        both("Promise 11: 0 if none is FREE", BoundaryTests::freeNone);
        test("Promise 12: its parts one by one, from 0 on", BoundaryTests::spineLines);
        test("Promise 12: CLASS in scheme 1 is two lines", BoundaryTests::spineTwoLines);
        test("Promise 12: NONE past the last one", BoundaryTests::spinePastTheLast);
        both("Promise 12: NONE without one", BoundaryTests::spineWithoutOne);
        both("Promise 13: 1 if it is behind", BoundaryTests::passBehind);
        both("Promise 13: 1 if it is the one that was told before it", BoundaryTests::passTheSame);
        both("Promise 13: 1 if none was told", BoundaryTests::passFirst);
        both("Promise 13: 0 if it is out of order", BoundaryTests::passOutOfOrder);
        both("Promise 13: NONE if it is not on THE SHELF", BoundaryTests::passNotThere);
        both("Promise 13: and it does not count", BoundaryTests::passDoesNotCount);
        both("Promise 13: of several with one RECORD the first counts", BoundaryTests::passFirstOfSeveral);
    }

    /** A sentence that speaks of one scheme, or whose test tells the schemes apart itself. */
    private static void test(String words, Runnable asks) {
        sentences++;
        ask(words, asks);
    }

    private static void both(String words, IntConsumer asks) {
        sentences++;
        for (int scheme = 0; scheme <= 1; scheme++) {
            int asked = scheme;
            ask(words + "', scheme '" + scheme, () -> asks.accept(asked));
        }
    }

    private static void ask(String topic, Runnable asks) {
        Answers.about(topic);
        int asked = Answers.asked();
        try {
            asks.run();
        } catch (RuntimeException e) {
            Answers.fault("a call threw " + e);
        }
        if (Answers.asked() == asked) {
            Answers.fault("nothing was asked");
        }
    }

    private static void due(String call, long got, long want) {
        Answers.due(call, got, want);
    }

    private static void dueParts(int scheme, int parts, String... texts) {
        for (String text : texts) {
            dueRead(scheme, text, parts);
        }
    }

    /** The place as it is in the text that is written here; the class may be shorter in the scheme. */
    private static void dueWrong(int scheme, int place, String... texts) {
        for (String text : texts) {
            int shorter = text.length() - Desk.inScheme(scheme, text).length();
            dueRead(scheme, text, -1 - (place - shorter));
        }
    }

    private static void dueRead(int scheme, String text, int answer) {
        due("read() of '" + Desk.inScheme(scheme, text) + "'", new Desk(scheme).read(text), answer);
    }

    // The parts

    private static void the512thCall(int scheme) {
        String six = scheme == 0 ? "500 A1" : "QA5 A1";
        Desk desk = new Desk(scheme);
        for (int k = 0; k < 505; k++) {
            due("letter(0)", desk.letter(0), 0);
        }
        due("the 512th call, read()", desk.read(six), 2);
        due("the calls that were made", desk.calls(), 512);
        Desk other = new Desk(scheme).with(six);
        while (other.calls() < 511) {
            other.sign('5');
        }
        due("the 512th call, put(7)", other.put(7), 0);
    }

    private static void oneSpaceBetween(int scheme) {
        dueParts(scheme, 5, "500 A1 1999 v.1 a");
        dueWrong(scheme, 4, "500  A1");
        dueWrong(scheme, 7, "500 A1  1999");
        dueWrong(scheme, 12, "500 A1 1999  v.1");
        dueWrong(scheme, 16, "500 A1 1999 v.1  a");
        dueWrong(scheme, 3, "500A1", "500\tA1", "500_A1", "500\u00a0A1", "500\0A1");
        dueWrong(scheme, 6, "500 A1a", "500 A1\tv.1");
        dueWrong(scheme, 11, "500 A1 1999v.1", "500 A1 1999a");
        dueWrong(scheme, 0, " 500 A1");
    }

    private static void whatThereIsInThisOrder(int scheme) {
        dueParts(scheme, 2, "500 A1");
        dueParts(scheme, 3, "500 A1 1999", "500 A1 v.1", "500 A1 a");
        dueParts(scheme, 4, "500 A1 1999 v.1", "500 A1 1999 a", "500 A1 v.1 a");
        dueParts(scheme, 5, "500 A1 1999 v.1 a");
        dueWrong(scheme, scheme == 0 ? 0 : 3, "A1 500");
        dueWrong(scheme, 4, "500 1999", "500 v.1", "500 a");
        dueWrong(scheme, 11, "500 A1 v.1 1999");
        dueWrong(scheme, 9, "500 A1 a 1999", "500 A1 a v.1");
        dueWrong(scheme, 14, "500 A1 1999 a v.1");
    }

    private static void threeDigits() {
        dueParts(0, 2, "000 A1", "999 A1", "010 A1");
        dueWrong(0, 0, " A1", "/00 A1", ":00 A1", "A00 A1");
        dueWrong(0, 1, "5 A1");
        dueWrong(0, 2, "50 A1", "50.1 A1");
        dueWrong(0, 3, "5000 A1", "500A A1");
    }

    private static void decimalFraction() {
        dueParts(0, 2, "500.1 A1", "500.123456789 A1", "500.000000001 A1");
        dueWrong(0, 4, "500. A1", "500..1 A1", "500.a A1");
        dueWrong(0, 13, "500.1234567891 A1");
        dueWrong(0, 5, "500.1.1 A1");
    }

    private static void decimalFractionLast() {
        dueParts(0, 2, "500.01 A1", "500.100000001 A1");
        dueWrong(0, 4, "500.0 A1");
        dueWrong(0, 5, "500.10 A1");
        dueWrong(0, 12, "500.123456780 A1");
    }

    private static void classLetters() {
        dueParts(1, 2, "A1 A1", "Z1 A1", "AZ1 A1", "AAZ1 A1");
        dueWrong(1, 0, "1 A1", "@1 A1", "[1 A1", "a1 A1", "\u00c01 A1");
        dueWrong(1, 1, "Q@1 A1", "Qa1 A1");
        dueWrong(1, 3, "AAAA1 A1");
    }

    private static void classNumber() {
        dueParts(1, 2, "Q1 A1", "Q9999 A1");
        dueWrong(1, 1, "Q A1", "Q.1 A1");
        dueWrong(1, 5, "Q12345 A1");
    }

    private static void classNumberFirst() {
        dueParts(1, 2, "Q10 A1", "Q1000 A1");
        dueWrong(1, 1, "Q0 A1", "Q01 A1");
        dueWrong(1, 3, "QAB0 A1");
    }

    private static void letteredFraction() {
        dueParts(1, 2, "Q1.1 A1", "Q1.1234 A1", "Q1.0001 A1");
        dueWrong(1, 3, "Q1. A1", "Q1..1 A1");
        dueWrong(1, 7, "Q1.12345 A1");
        dueWrong(1, 4, "Q1.1.1 A1");
    }

    private static void letteredFractionLast() {
        dueParts(1, 2, "Q1.01 A1", "Q1.1001 A1");
        dueWrong(1, 3, "Q1.0 A1");
        dueWrong(1, 4, "Q1.10 A1");
        dueWrong(1, 6, "Q1.1230 A1");
    }

    private static void cutterCapital(int scheme) {
        dueParts(scheme, 2, "500 A1", "500 Z1");
        dueWrong(scheme, 4, "500 1", "500 a1", "500 @1", "500 [1", "500 \u00c01");
        dueWrong(scheme, 5, "500 AB1");
    }

    private static void cutterDigits(int scheme) {
        dueParts(scheme, 2, "500 A1", "500 A123456");
        dueWrong(scheme, 5, "500 A", "500 A ", "500 Aa", "500 A.1");
        dueWrong(scheme, 11, "500 A1234567");
    }

    private static void cutterLast(int scheme) {
        dueParts(scheme, 2, "500 A01", "500 A000001", "500 A100001");
        dueWrong(scheme, 5, "500 A0", "500 A0 1999");
        dueWrong(scheme, 6, "500 A10", "500 A10 1999");
        dueWrong(scheme, 10, "500 A123450");
    }

    private static void cutterCountsBehindAPoint(int scheme) {
        dueOrder(scheme, "500 A009", "500 A01", "500 A1", "500 A12", "500 A123456", "500 A13", "500 A2");
    }

    private static void yearDigits(int scheme) {
        dueParts(scheme, 3, "500 A1 1000", "500 A1 9999", "500 A1 1990");
        dueWrong(scheme, 8, "500 A1 1");
        dueWrong(scheme, 10, "500 A1 199", "500 A1 199 v.1", "500 A1 199a");
        dueWrong(scheme, 11, "500 A1 19991");
    }

    private static void yearFirst(int scheme) {
        dueParts(scheme, 3, "500 A1 1000");
        dueWrong(scheme, 7, "500 A1 0", "500 A1 0999", "500 A1 0000");
    }

    private static void volumeBegins(int scheme) {
        dueParts(scheme, 3, "500 A1 v.1");
        dueWrong(scheme, 7, "500 A1 V.1", "500 A1 .1");
        dueWrong(scheme, 8, "500 A1 v1", "500 A1 v,1", "500 A1 w.1", "500 A1 u.1");
        dueWrong(scheme, 9, "500 A1 v..1", "500 A1 vv.1");
    }

    private static void volumeDigits(int scheme) {
        dueParts(scheme, 3, "500 A1 v.1", "500 A1 v.9999", "500 A1 v.1000");
        dueWrong(scheme, 9, "500 A1 v.", "500 A1 v. ", "500 A1 v.a");
        dueWrong(scheme, 13, "500 A1 v.12345");
    }

    private static void volumeFirst(int scheme) {
        dueParts(scheme, 3, "500 A1 v.10");
        dueWrong(scheme, 9, "500 A1 v.0", "500 A1 v.01", "500 A1 v.0a");
    }

    private static void volumeLetter(int scheme) {
        dueParts(scheme, 3, "500 A1 v.1a", "500 A1 v.1z", "500 A1 v.9999z");
        dueParts(scheme, 4, "500 A1 v.1a b");
        dueWrong(scheme, 10, "500 A1 v.1A", "500 A1 v.1`", "500 A1 v.1{");
        dueWrong(scheme, 11, "500 A1 v.1ab", "500 A1 v.1a1");
    }

    private static void markLetters(int scheme) {
        dueParts(scheme, 3, "500 A1 a", "500 A1 z", "500 A1 abcdefgh", "500 A1 zzzzzzzz");
        dueWrong(scheme, 7, "500 A1 ", "500 A1 A", "500 A1 `", "500 A1 {", "500 A1 \u00e9");
        dueWrong(scheme, 8, "500 A1 aB", "500 A1 a1", "500 A1 a.");
        dueWrong(scheme, 15, "500 A1 abcdefghi");
    }

    private static void markNotVolume(int scheme) {
        dueParts(scheme, 3, "500 A1 v", "500 A1 vv", "500 A1 vol");
        dueParts(scheme, 4, "500 A1 v.1 v");
        dueWrong(scheme, 9, "500 A1 v.", "500 A1 v.a");
        dueWrong(scheme, 11, "500 A1 v.1 v.", "500 A1 v.1 v.2");
        Desk desk = new Desk(scheme).with("500 A1 v");
        due("part(3) of a mark v", desk.part(3), 0);
        due("part(4) of a mark v", desk.part(4), 1);
        desk.with("500 A1 v.1");
        due("part(3) of a volume", desk.part(3), 1);
        due("part(4) of a volume", desk.part(4), 0);
    }

    // WRONG

    private static void firstThatDoesNotFit(int scheme) {
        dueWrong(scheme, 0, "x00 a0 0999");
        dueWrong(scheme, 4, "500.0 a0 0999");
        dueWrong(scheme, 5, "500 A0 0999");
        dueWrong(scheme, 7, "500 A1 0999 v.0");
        dueWrong(scheme, 14, "500 A1 1999 v.0 A");
        dueWrong(1, 1, "Q0.0 A0", "Q012345 A0");
    }

    /** Of each beginning of these texts the end is wrong, or it is a call number. */
    private static void endIfMoreIsWanted() {
        dueEnds(0, "822.33 S527 1987 v.12b large", "wwwwwwwww222wwww3w4w444w55555");
        dueEnds(1, "QAB76.9 D3", "wwwwwwwwww2");
        dueEnds(1, "Q7", "www");
    }

    /** For each length, from 0 on, how many parts are read, or w if more is wanted. */
    private static void dueEnds(int scheme, String text, String answers) {
        due("the answers that are written", answers.length(), text.length() + 1);
        for (int length = 0; length < answers.length(); length++) {
            char answer = answers.charAt(length);
            dueParts(scheme, answer == 'w' ? -1 - length : answer - '0', text.substring(0, length));
        }
    }

    private static void readOn(int scheme) {
        dueWrong(0, 13, "500.1234567801 A1");
        dueWrong(1, 7, "Q1.12305 A1");
        dueWrong(scheme, 11, "500 A1234507");
        Desk desk = new Desk(1).with("QAB1234.5678 D123456 1999 v.1234z abcdefgh");
        due("part(0)", desk.part(0), 12345678);
        due("part(1)", desk.part(1), 123456);
        due("part(3)", desk.part(3), 1234);
        due("part(4)", desk.part(4), 8);
    }

    private static void digitTooMany(int scheme) {
        dueWrong(0, 3, "5001");
        dueWrong(0, 13, "500.1234567891", "500.1234567890", "500.12345678912");
        dueWrong(1, 5, "Q12345", "Q10000", "Q123456");
        dueWrong(1, 7, "Q1.12345", "Q1.12340", "Q1.123456");
        dueWrong(scheme, 11, "500 A1234567", "500 A1234560", "500 A12345678");
        dueWrong(scheme, 11, "500 A1 19991", "500 A1 19990");
        dueWrong(scheme, 13, "500 A1 v.12345", "500 A1 v.12340", "500 A1 v.12345a");
    }

    private static void lastDigitZero(int scheme) {
        dueWrong(scheme, 4, "500.0", "500.0 A1", "500.0x");
        dueWrong(scheme, 6, "500.100", "500.100 A1", "500.100x", "500.000 A1");
        dueWrong(scheme, 5, "500 A0", "500 A0x", "500 A0 ");
        dueWrong(scheme, 7, "500 A100", "500 A100 1999", "500 A100x");
    }

    private static void firstDigitZero(int scheme) {
        dueWrong(1, 1, "Q0", "Q0 A1", "Q0.1 A1", "Q00001 A1");
        dueWrong(1, 3, "QAB0", "QAB01 A1");
        dueWrong(scheme, 7, "500 A1 0", "500 A1 0999", "500 A1 09999");
        dueWrong(scheme, 9, "500 A1 v.0", "500 A1 v.0a", "500 A1 v.01234");
        dueParts(0, 2, "001.01 A01");
        dueParts(1, 2, "Q1.01 A01");
    }

    private static void behindAPart(int scheme) {
        dueWrong(scheme, 3, "500", "500x", "500A1");
        dueWrong(scheme, 5, "500.1", "500.1x");
        dueWrong(scheme, 6, "500 A1.", "500 A1x", "500 A1A");
        dueWrong(scheme, 11, "500 A1 1999.", "500 A1 1999v");
        dueWrong(scheme, 10, "500 A1 v.1.", "500 A1 v.1-");
        dueWrong(scheme, 8, "500 A1 a.", "500 A1 a1");
        dueParts(scheme, 2, "500 A1");
        dueParts(scheme, 3, "500 A1 1999", "500 A1 v.1", "500 A1 v.1a", "500 A1 a");
    }

    private static void spaceIsTakenFirst(int scheme) {
        dueWrong(scheme, 4, "500 ", "500  A1", "500 1999", "500 a");
        dueWrong(scheme, 7, "500 A1 ", "500 A1  ", "500 A1 B1", "500 A1 .");
        dueWrong(scheme, 12, "500 A1 1999 ", "500 A1 1999 1999", "500 A1 1999 A1");
        dueWrong(scheme, 11, "500 A1 v.1 ", "500 A1 v.1 1999", "500 A1 v.1 v.2", "500 A1 v.1  ");
        dueWrong(scheme, 9, "500 A1 a ", "500 A1 a  ", "500 A1 a b", "500 A1 a 1999", "500 A1 a v.1");
        dueWrong(scheme, 18, "500 A1 1999 v.1 a ", "500 A1 1999 v.1 a b", "500 A1 1999 v.1 a !");
    }

    // ORDER

    /** Puts them one by one from both ends, so that each way of coming in is met. */
    private static void dueOrder(int scheme, String... inOrder) {
        Desk desk = new Desk(scheme);
        for (int k = 0; k < inOrder.length; k++) {
            int turn = k % 2 == 0 ? k / 2 : inOrder.length - 1 - k / 2;
            desk.put(inOrder[turn], turn);
        }
        for (int k = 0; k < inOrder.length; k++) {
            due("the one at the place of '" + inOrder[k] + "'", desk.shelf(k), k);
            for (int m = 0; m < inOrder.length; m++) {
                due("compare('" + inOrder[k] + "', '" + inOrder[m] + "')", desk.compare(k, m),
                        Integer.compare(k, m));
            }
        }
    }

    private static void orderOfThreeDigits() {
        dueOrder(0, "000.9 Z9 9999", "001 B1", "009 A1", "010 A1", "099.9 A1", "100 A1", "999 A1");
    }

    private static void orderOfDecimals() {
        dueOrder(0, "500 Z9 9999", "500.000000001 B1", "500.09 A1", "500.1 Z1", "500.100000001 A1",
                "500.12 A1", "500.2 A1", "500.999999999 A1");
    }

    private static void orderOfClassLetters() {
        dueOrder(1, "A9999.9 Z9", "AA9 B1", "AAA9 A1", "AAB8 A1", "AB7 A1", "AZ6 A1", "B5 A1", "ZZZ1 A1");
    }

    private static void orderOfClassNumbers() {
        dueOrder(1, "Q1.9999 Z9", "Q2.9 B1", "Q9 A1", "Q10.5 A1", "Q11 A1", "Q100 A1", "Q9999 A1");
    }

    private static void orderOfLetteredFractions() {
        dueOrder(1, "Q1 Z9 9999", "Q1.0001 B1", "Q1.09 A1", "Q1.1 Z1", "Q1.1001 A1", "Q1.12 A1",
                "Q1.2 A1", "Q1.9999 A1");
    }

    private static void orderOfCapitals(int scheme) {
        dueOrder(scheme, "500 A999999 9999", "500 B8", "500 C7", "500 Z000001");
    }

    private static void orderOfCutterDigits(int scheme) {
        dueOrder(scheme, "500 A000001 1999", "500 A09", "500 A1 9999 v.9 z", "500 A100001", "500 A12", "500 A2",
                "500 A999999");
    }

    private static void orderOfYears(int scheme) {
        dueOrder(scheme, "500 A1 v.9999z zzzzzzzz", "500 A1 1000 z", "500 A1 1999 v.2", "500 A1 2000 v.1",
                "500 A1 9999");
    }

    private static void orderOfNoVolume(int scheme) {
        dueOrder(scheme, "500 A1 zzzzzzzz", "500 A1 v.1", "500 A1 1999 zzzzzzzz", "500 A1 1999 v.1");
    }

    private static void orderOfVolumeNumbers(int scheme) {
        dueOrder(scheme, "500 A1 v.1z z", "500 A1 v.2b a", "500 A1 v.9a", "500 A1 v.10", "500 A1 v.999z",
                "500 A1 v.1000", "500 A1 v.9999");
    }

    private static void orderOfVolumeLetters(int scheme) {
        dueOrder(scheme, "500 A1 v.1 zzzzzzzz", "500 A1 v.1a z", "500 A1 v.1b b", "500 A1 v.1z a", "500 A1 v.2");
    }

    private static void orderOfNoMark(int scheme) {
        dueOrder(scheme, "500 A1", "500 A1 a", "500 A1 v.1", "500 A1 v.1 a", "500 A1 v.1a", "500 A1 v.1a a",
                "500 A1 1999", "500 A1 1999 a");
    }

    private static void orderOfMarks(int scheme) {
        dueOrder(scheme, "500 A1 a", "500 A1 aa", "500 A1 aaaaaaaa", "500 A1 aaaaaaab", "500 A1 ab", "500 A1 b",
                "500 A1 zzzzzzzy", "500 A1 zzzzzzzz");
    }

    private static void sameInAll(int scheme) {
        String[] all = {"500 A1", "500.1 A1", "500 B1", "500 A11", "500 A1 1999", "500 A1 v.1",
            "500 A1 v.1a", "500 A1 a"};
        Desk desk = new Desk(scheme);
        for (int k = 0; k < all.length; k++) {
            due("put of '" + all[k] + "', another", Math.min(desk.put(all[k], k), 0), 0);
        }
        for (int k = 0; k < all.length; k++) {
            due("put of '" + all[k] + "' again", Math.max(desk.put(all[k], k), -2), -2);
        }
        sameLetters();
    }

    private static void sameLetters() {
        Desk lettered = new Desk(1);
        due("put of 'Q1 A1'", lettered.put("Q1 A1", 1), 0);
        due("put of 'QA1 A1', another", lettered.put("QA1 A1", 2), 1);
        due("put of 'Q1 A1' again", lettered.put("Q1 A1", 3), -2);
        due("put of 'QA1 A1' again", lettered.put("QA1 A1", 3), -3);
    }

    // THE SHELF

    /** Sixty short ones, so that 512 calls suffice, the last in ORDER first; the records are 0 to 59. */
    private static Desk fullShelf(int scheme) {
        Desk desk = new Desk(scheme);
        for (int k = 59; k >= 0; k--) {
            String cutter = "BCDEFGH".charAt(k / 9) + "" + (1 + k % 9);
            due("put of the one with record " + k, desk.put("500 " + cutter, k), 0);
        }
        return desk;
    }

    private static void atMostSixty(int scheme) {
        Desk desk = fullShelf(scheme);
        due("the 61st put", desk.put("500 Z9", 60), NONE);
        due("shelf(0)", desk.shelf(0), 0);
        due("shelf(59)", desk.shelf(59), 59);
        due("shelf(60)", desk.shelf(60), NONE);
        due("compare(59, 60)", desk.compare(59, 60), -2);
        due("before() of what did not fit", desk.before(), 60);
    }

    private static void noTwoTheSame(int scheme) {
        Desk desk = new Desk(scheme);
        desk.put("500 A1 1999 v.1a b", 1);
        due("put again at once", desk.put(2), -2);
        due("put of the same text", desk.put("500 A1 1999 v.1a b", 3), -2);
        due("the record stays", desk.shelf(0), 1);
        due("there is one only", desk.shelf(1), NONE);
    }

    private static void recordsInOrder(int scheme) {
        Desk desk = new Desk(scheme);
        desk.put("500 A1", GREATEST);
        desk.put("600 A1", LEAST);
        desk.put("400 A1", 0);
        desk.put("500.5 A1", -1);
        int[] records = {0, GREATEST, -1, LEAST, NONE};
        for (int place = 0; place < records.length; place++) {
            due("shelf(" + place + ")", desk.shelf(place), records[place]);
        }
    }

    // Promise 1

    private static void schemeBelow() {
        for (int scheme : new int[] {LEAST, -2, -1, 0}) {
            dueParts(scheme, 2, "500 A1");
            dueWrong(scheme, 0, "Q5 A1");
        }
    }

    private static void schemeAbove() {
        for (int scheme : new int[] {1, 2, 3, 256, GREATEST}) {
            dueParts(scheme, 2, "Q5 A1");
            due("read() of the signs '500 A1'", new Desk(scheme).collect("500 A1").read(), -1);
        }
    }

    private static void noLatestAtFirst(int scheme) {
        Desk desk = new Desk(scheme);
        due("part(0)", desk.part(0), THROWS);
        due("letter(0)", desk.letter(0), 0);
        due("put(1)", desk.put(1), NONE);
        due("before()", desk.before(), NONE);
        due("free()", desk.free(), 0);
        due("spine(0)", desk.spine(0), NONE);
    }

    private static void emptyAtFirst(int scheme) {
        Desk desk = new Desk(scheme);
        due("shelf(0)", desk.shelf(0), NONE);
        due("take(0)", desk.take(0), NONE);
        due("compare(0, 0)", desk.compare(0, 0), -2);
        due("pass(0)", desk.pass(0), NONE);
        due("before()", desk.with("500 A1").before(), 0);
        due("put(1)", desk.put(1), 0);
        due("another object's shelf(0)", new Desk(scheme).shelf(0), NONE);
    }

    // Promise 2

    private static void lowestEightBits(int scheme) {
        int[] above = {256, 512, 65536, LEAST, 0x7fffff00, -256};
        for (int bits : above) {
            Desk desk = new Desk(scheme);
            for (char c : Desk.inScheme(scheme, "500 A1 v.1z").toCharArray()) {
                desk.sign(c | bits);
            }
            due("read() with the higher bits " + bits, desk.read(), 3);
        }
        for (int c : new int[] {0, -1, 255, 256, '5' + 128, LEAST, GREATEST}) {
            Desk desk = new Desk(scheme);
            desk.sign(c);
            due("read() of sign " + c, desk.read(), -1);
        }
    }

    /** No text that fits has more than 43 signs, or 42 in scheme 1, so that the 60th can't be seen. */
    private static void beyondSixty(int scheme) {
        String longest = (scheme == 0 ? "500.123456789" : "QAB1234.5678")
                + " A123456 1999 v.1234z abcdefgh";
        int signs = scheme == 0 ? 43 : 42;
        Desk desk = new Desk(scheme);
        due("read() of the longest", desk.read(longest), 5);
        due("read() of the longest and a sign", desk.read(longest + "."), -1 - signs);
        due("read() of the longest, a space and a sign", desk.read(longest + " ."), -1 - (signs + 1));
        String one = Desk.inScheme(scheme, "500 A1");
        desk.collect((one + " " + "a".repeat(60)).substring(0, 60)).collect(one);
        due("read() of more than 60 signs", desk.read(), -1 - (one.length() + 9));
        due("read() behind it: the last ones are lost", desk.read(), -1);
        desk.collect((scheme == 0 ? "5" : "Q").repeat(200));
        due("read() of 200 signs", desk.read(), -1 - 3);
        due("read() behind 200 signs", desk.read("500 A1"), 2);
    }

    // Promise 3

    private static void collectedNoMore(int scheme) {
        Desk desk = new Desk(scheme);
        due("read()", desk.read("500 A1"), 2);
        due("read() again", desk.read(), -1);
        due("read() of the next", desk.read("600 B2 1999"), 3);
        due("read() of a wrong one", desk.read("500 A"), scheme == 0 ? -6 : -5);
        due("read() of '1' behind a wrong one", desk.read("1"), scheme == 0 ? -2 : -1);
        due("read() of nothing", desk.read(), -1);
        due("read() behind these", desk.read("500 A1"), 2);
    }

    private static void howManyParts(int scheme) {
        Desk desk = new Desk(scheme);
        due("read()", desk.read("500 A1"), 2);
        due("read()", desk.read("600 B2 1999"), 3);
        due("part(1)", desk.part(1), 200000);
        due("read()", desk.read("700 C3 v.1 a"), 4);
        due("part(1)", desk.part(1), 300000);
        due("part(2) of the one before is gone", desk.part(2), 0);
        due("read()", desk.read("800.8 D4 1999 v.1 a"), 5);
        due("part(0)", desk.part(0), scheme == 0 ? 800800000000L : 88000);
        dueParts(1, 2, "Q5 A1", "QAB5.5 A1");
        dueParts(1, 5, "QAB5.5 A1 1999 v.1 a");
    }

    private static void lessThePlace(int scheme) {
        due("read() of nothing", new Desk(scheme).read(), -1);
        due("read() of one sign", new Desk(scheme).read(scheme == 0 ? "5" : "Q"), -2);
        due("read() of '500 A1 abcdefghi'", new Desk(0).read("500 A1 abcdefghi"), -16);
        due("read() of 'Q5 A1 abcdefghi'", new Desk(1).read("Q5 A1 abcdefghi"), -15);
    }

    private static void latestStays(int scheme) {
        Desk desk = new Desk(scheme).with("500.5 B2 1999 v.3c de");
        String[] wrongOnes = {"", "900", "900.9", "900.9 Y", "900.9 Y8 ", "900.9 Y8 2000 ",
            "900.9 Y8 2000 v.4d ", "900.9 Y8 2000 v.4d fgh."};
        for (String text : wrongOnes) {
            due("read() of '" + text + "'", Math.max(desk.read(text), -1), -1);
            dueStill(desk, scheme, "behind '" + text + "'");
        }
        due("put(1)", desk.put(1), 0);
        due("put of it again", desk.put("500.5 B2 1999 v.3c de", 1), -2);
    }

    private static void dueStill(Desk desk, int scheme, String behind) {
        long[] parts = {scheme == 0 ? 500500000000L : 55000, 200000, 1999, 3, 2};
        for (int k = 0; k < parts.length; k++) {
            due("part(" + k + ") " + behind, desk.part(k), parts[k]);
        }
        due("letter(0) " + behind, desk.letter(0), scheme == 0 ? 'B' : 'Q');
        due("letter(1) " + behind, desk.letter(1), scheme == 0 ? 0 : 'B');
        due("spine(1) " + behind, desk.spine(1), scheme == 0 ? 2 : 3);
        due("spine(6) " + behind, desk.spine(6), NONE);
        due("free() " + behind, desk.free(), 2);
    }

    // Promise 4

    private static void duePart(int scheme, String text, int i, long want) {
        due("part(" + i + ") of '" + text + "'", new Desk(scheme).with(text).part(i), want);
    }

    private static void classFilledUp() {
        duePart(0, "000 A1", 0, 0);
        duePart(0, "001 A1", 0, 1000000000L);
        duePart(0, "500.1 A1", 0, 500100000000L);
        duePart(0, "500.000000001 A1", 0, 500000000001L);
        duePart(0, "999.999999999 A1", 0, 999999999999L);
    }

    private static void letteredClassFilledUp() {
        duePart(1, "Q1 A1", 0, 10000);
        duePart(1, "Q1.1 A1", 0, 11000);
        duePart(1, "QA1.0001 A1", 0, 10001);
        duePart(1, "QAB9999 A1", 0, 99990000);
        duePart(1, "Q9999.9999 A1", 0, 99999999);
    }

    private static void cutterFilledUp(int scheme) {
        duePart(scheme, "500 A1", 1, 100000);
        duePart(scheme, "500 A01", 1, 10000);
        duePart(scheme, "500 A000001", 1, 1);
        duePart(scheme, "500 Z999999", 1, 999999);
    }

    private static void laterParts(int scheme) {
        duePart(scheme, "500 A1 1000", 2, 1000);
        duePart(scheme, "500 A1 9999", 2, 9999);
        duePart(scheme, "500 A1 v.1", 3, 1);
        duePart(scheme, "500 A1 v.9999z", 3, 9999);
        duePart(scheme, "500 A1 a", 4, 1);
        duePart(scheme, "500 A1 abcdefgh", 4, 8);
    }

    private static void partsNotThere(int scheme) {
        for (int i = 2; i <= 4; i++) {
            duePart(scheme, "500 A1", i, 0);
        }
        duePart(scheme, "500 A1 v.1 a", 2, 0);
        duePart(scheme, "500 A1 1999 a", 3, 0);
        duePart(scheme, "500 A1 1999 v.1z", 4, 0);
    }

    private static void anotherPart(int scheme) {
        for (int i : new int[] {LEAST, -2, -1, 5, 6, GREATEST}) {
            duePart(scheme, "500 A1", i, THROWS);
            duePart(scheme, "500 A1 1999 v.1 a", i, THROWS);
        }
        Desk desk = new Desk(scheme).with("500 A1");
        due("part(5)", desk.part(5), THROWS);
        due("part(1) behind one that threw", desk.part(1), 100000);
    }

    private static void partWithoutOne(int scheme) {
        for (int i = -1; i <= 5; i++) {
            Desk desk = new Desk(scheme);
            due("part(" + i + ") of a new object", desk.part(i), THROWS);
            desk.read("500");
            due("part(" + i + ") behind a wrong text", desk.part(i), THROWS);
        }
    }

    // Promise 5

    private static void lettersThenCapital() {
        dueLetters(0, "500 S5", "S");
        dueLetters(1, "Q5 S5", "QS");
        dueLetters(1, "QA5 S5", "QAS");
        dueLetters(1, "ZAB5 S5", "ZABS");
    }

    private static void dueLetters(int scheme, String text, String letters) {
        Desk desk = new Desk(scheme).with(text);
        for (int k = 0; k < letters.length(); k++) {
            due("letter(" + k + ") of '" + text + "'", desk.letter(k), letters.charAt(k));
        }
    }

    private static void pastTheLetters() {
        duePastLetters(0, "500 S5 v.1a bcd", 1);
        duePastLetters(1, "Q5 S5 v.1a bcd", 2);
        duePastLetters(1, "QA5 S5 v.1a bcd", 3);
        duePastLetters(1, "QAB5 S5 v.1a bcd", 4);
    }

    private static void duePastLetters(int scheme, String text, int letters) {
        Desk desk = new Desk(scheme).with(text);
        for (int i : new int[] {letters, letters + 1, 5, 32, GREATEST, -1, LEAST}) {
            due("letter(" + i + ") of '" + text + "'", desk.letter(i), 0);
        }
    }

    private static void letterWithoutOne(int scheme) {
        for (int i : new int[] {LEAST, -1, 0, 1, 3, GREATEST}) {
            due("letter(" + i + ") of a new object", new Desk(scheme).letter(i), 0);
            Desk desk = new Desk(scheme);
            desk.read("500 ");
            due("letter(" + i + ") behind a wrong text", desk.letter(i), 0);
        }
    }

    // Promise 6

    private static void placeFromZeroOn(int scheme) {
        Desk desk = new Desk(scheme);
        due("put on the empty shelf", desk.put("500 A1", 1), 0);
        due("put behind all", desk.put("700 A1", 2), 1);
        due("put between", desk.put("600 A1", 3), 1);
        due("put in front of all", desk.put("400 A1", 4), 0);
        due("put behind all", desk.put("800 A1", 5), 4);
    }

    private static void putWithoutOne(int scheme) {
        Desk desk = new Desk(scheme);
        due("put(0)", desk.put(0), NONE);
        due("read() of a wrong one", desk.read("500"), scheme == 0 ? -4 : -3);
        due("put(1)", desk.put(1), NONE);
        due("shelf(0)", desk.shelf(0), NONE);
    }

    private static void putOfTheSame(int scheme) {
        Desk desk = new Desk(scheme);
        desk.put("500 A1", 1);
        desk.put("600 A1", 2);
        desk.put("700 A1", 3);
        due("put of the first again", desk.put("500 A1", 9), -2);
        due("put of the second again", desk.put("600 A1", 9), -3);
        due("put of the third again", desk.put("700 A1", 9), -4);
        due("shelf(2)", desk.shelf(2), 3);
        due("shelf(3)", desk.shelf(3), NONE);
        desk.take(0);
        due("put of the third where it stands now", desk.put(9), -3);
        due("put of the first, taken", desk.put("500 A1", 9), 0);
    }

    private static void putOfTheSameOnFull(int scheme) {
        Desk desk = fullShelf(scheme);
        due("put of the first again", desk.put("500 B1", 99), -2);
        due("put of the last again", desk.put("500 H6", 99), -61);
        due("shelf(59)", desk.shelf(59), 59);
    }

    private static void putOnFull(int scheme) {
        for (String text : new String[] {"500 A1", "500 B1 a", "500 Z9"}) {
            Desk desk = fullShelf(scheme);
            due("put of '" + text + "'", desk.put(text, 99), NONE);
            due("shelf(0)", desk.shelf(0), 0);
            due("shelf(1)", desk.shelf(1), 1);
            due("shelf(59)", desk.shelf(59), 59);
            due("shelf(60)", desk.shelf(60), NONE);
            due("put of '" + text + "' again", desk.put(98), NONE);
        }
        Desk desk = fullShelf(scheme);
        due("put behind", desk.put("500 Z9", 99), NONE);
        due("take(59)", desk.take(59), 59);
        due("put of the 60th", desk.put(99), 59);
        due("put on the shelf that is full again", desk.put("500 A1", 99), NONE);
    }

    // Promises 7 and 8

    private static Desk threeOnTheShelf(int scheme) {
        Desk desk = new Desk(scheme);
        desk.put("500 A1", 5);
        desk.put("600 A1", 6);
        desk.put("700 A1", 7);
        return desk;
    }

    private static void shelfOfNone(int scheme) {
        Desk desk = threeOnTheShelf(scheme);
        due("shelf(2)", desk.shelf(2), 7);
        due("shelf(3)", desk.shelf(3), NONE);
        for (int place : NO_PLACES) {
            due("shelf(" + place + ")", desk.shelf(place), NONE);
        }
        desk.take(1);
        due("shelf(2) behind take", desk.shelf(2), NONE);
        Desk full = fullShelf(scheme);
        for (int place : NO_PLACES) {
            due("shelf(" + place + ") of the full shelf", full.shelf(place), NONE);
        }
    }

    private static void taken(int scheme) {
        Desk desk = threeOnTheShelf(scheme);
        due("take(1)", desk.take(1), 6);
        due("shelf(0)", desk.shelf(0), 5);
        due("shelf(1)", desk.shelf(1), 7);
        due("shelf(2)", desk.shelf(2), NONE);
        due("take(1)", desk.take(1), 7);
        due("take(0)", desk.take(0), 5);
        due("shelf(0)", desk.shelf(0), NONE);
        due("the latest stays", desk.part(0), scheme == 0 ? 700000000000L : 70000);
        Desk full = fullShelf(scheme);
        due("take(0) of the full shelf", full.take(0), 0);
        due("shelf(58)", full.shelf(58), 59);
        due("shelf(59)", full.shelf(59), NONE);
    }

    private static void takeOfNone(int scheme) {
        Desk desk = threeOnTheShelf(scheme);
        due("take(3)", desk.take(3), NONE);
        for (int place : NO_PLACES) {
            due("take(" + place + ")", desk.take(place), NONE);
        }
        due("shelf(0)", desk.shelf(0), 5);
        due("shelf(1)", desk.shelf(1), 6);
        due("shelf(2)", desk.shelf(2), 7);
        Desk full = fullShelf(scheme);
        for (int place : NO_PLACES) {
            due("take(" + place + ") of the full shelf", full.take(place), NONE);
        }
        due("shelf(59)", full.shelf(59), 59);
        due("take(0) of the empty shelf", new Desk(scheme).take(0), NONE);
    }

    private static void takeOfRecordNone(int scheme) {
        Desk desk = threeOnTheShelf(scheme);
        due("put(NONE)", desk.put("500.5 A1", NONE), 1);
        due("shelf(1)", desk.shelf(1), NONE);
        due("take(1)", desk.take(1), NONE);
        due("shelf(1) behind it", desk.shelf(1), 6);
        due("shelf(3) behind it", desk.shelf(3), NONE);
        due("put of what was taken", desk.put(8), 1);
    }

    // Promises 9 and 10

    private static void compared(int scheme) {
        Desk desk = threeOnTheShelf(scheme);
        due("compare(0, 2)", desk.compare(0, 2), -1);
        due("compare(1, 1)", desk.compare(1, 1), 0);
        due("compare(2, 0)", desk.compare(2, 0), 1);
        Desk full = fullShelf(scheme);
        due("compare(0, 59)", full.compare(0, 59), -1);
        due("compare(59, 0)", full.compare(59, 0), 1);
        due("compare(59, 59)", full.compare(59, 59), 0);
    }

    private static void compareOfNone(int scheme) {
        Desk desk = threeOnTheShelf(scheme);
        due("compare(2, 3)", desk.compare(2, 3), -2);
        due("compare(3, 2)", desk.compare(3, 2), -2);
        due("compare(3, 3)", desk.compare(3, 3), -2);
        for (int place : NO_PLACES) {
            due("compare(0, " + place + ")", desk.compare(0, place), -2);
            due("compare(" + place + ", 0)", desk.compare(place, 0), -2);
            due("compare(" + place + ", " + place + ")", desk.compare(place, place), -2);
        }
        desk.take(0);
        due("compare(1, 2) behind take", desk.compare(1, 2), -2);
        due("compare(0, 1) behind take", desk.compare(0, 1), -1);
    }

    private static void howManyBefore(int scheme) {
        due("before() on the empty shelf", new Desk(scheme).with("500 A1").before(), 0);
        Desk desk = threeOnTheShelf(scheme);
        due("before() of the last", desk.before(), 2);
        due("before() in front of all", desk.with("400.9 Z9").before(), 0);
        due("before() of the first", desk.with("500 A1").before(), 0);
        due("before() behind the first", desk.with("500 A1 a").before(), 1);
        due("before() behind all", desk.with("700 A11").before(), 3);
        desk.take(0);
        due("before() behind take", desk.before(), 2);
        Desk full = fullShelf(scheme);
        due("before() behind all of the full shelf", full.with("500 Z9").before(), 60);
    }

    private static void beforeWithoutOne(int scheme) {
        due("before() of a new object", new Desk(scheme).before(), NONE);
        Desk desk = new Desk(scheme);
        due("read() of a wrong one", desk.read("500 "), scheme == 0 ? -5 : -4);
        due("before() behind a wrong one", desk.before(), NONE);
    }

    // Promise 11

    private static void dueFree(Desk desk, String text, int want) {
        due("free() of '" + text + "'", desk.with(text).free(), want);
    }

    private static void freeWhateverElse(int scheme) {
        for (String rest : new String[] {"", " 1999", " v.1", " v.1a", " a", " 1999 v.1a b"}) {
            Desk desk = new Desk(scheme);
            desk.put("500 A5" + rest, 1);
            dueFree(desk, "500 A5", 51);
            dueFree(desk, "500 A5 2000 v.2 c", 51);
        }
    }

    private static void freeOfOtherClasses() {
        Desk desk = new Desk(0);
        desk.put("500.1 A5", 1);
        for (String text : new String[] {"500 A5", "500.11 A5", "500.01 A5", "501.1 A5"}) {
            dueFree(desk, text, 5);
        }
        dueFree(desk, "500.1 A5", 51);
        Desk lettered = new Desk(1);
        lettered.put("QA5.1 A5", 1);
        for (String text : new String[] {"Q5.1 A5", "QAA5.1 A5", "QB5.1 A5", "QA6.1 A5", "QA5 A5"}) {
            dueFree(lettered, text, 5);
        }
        dueFree(lettered, "QA5.1 A5", 51);
    }

    private static void freeOfOtherCapitals(int scheme) {
        Desk desk = new Desk(scheme);
        desk.put("500 B5", 1);
        dueFree(desk, "500 A5", 5);
        dueFree(desk, "500 C5", 5);
        dueFree(desk, "500 B5", 51);
    }

    private static void freeItself(int scheme) {
        Desk desk = new Desk(scheme);
        dueFree(desk, "500 A123456", 123456);
        desk.put("500 A1", 1);
        desk.put("500 A12", 1);
        dueFree(desk, "500 A123", 123);
        dueFree(desk, "500 A2", 2);
        dueFree(desk, "500 A01", 1);
        desk.take(0);
        dueFree(desk, "500 A1", 1);
    }

    private static void freeOneMore(int scheme) {
        Desk desk = new Desk(scheme);
        desk.put("500 A5", 1);
        for (int k = 1; k <= 9; k++) {
            dueFree(desk, "500 A5", 50 + k);
            desk.put("500 A5" + k, 1);
        }
        desk.take(3);
        dueFree(desk, "500 A5", 53);
    }

    /** 1 and 9 and 18 more are on the shelf in the end. */
    private static void freeTwoMore(int scheme) {
        Desk desk = new Desk(scheme);
        desk.put("100 A5", 1);
        for (int k = 1; k <= 9; k++) {
            desk.put("100 A5" + k, 1);
        }
        due("free() with two more", desk.with("100 A5").free(), 511);
        for (int k = 11; k <= 29; k++) {
            if (k != 20) {
                desk.put("100 A5" + k, 1);
            }
            if (k == 11 || k == 18) {
                dueFree(desk, "100 A5", 500 + k + 1);
            }
            if (k == 19 || k == 29) {
                dueFree(desk, "100 A5", 500 + k + 2);
            }
        }
    }

    private static void freeSixAtMost(int scheme) {
        Desk desk = new Desk(scheme);
        desk.put("100 A1234", 1);
        for (int k = 1; k <= 9; k++) {
            desk.put("100 A1234" + k, 1);
        }
        dueFree(desk, "100 A1234", 123411);
        dueFree(desk, "100 A12345", 123451);
        desk.put("100 A123456", 1);
        dueFree(desk, "100 A123456", 0);
    }

    private static void freeAsNumber(int scheme) {
        Desk desk = new Desk(scheme);
        dueFree(desk, "500 A05", 5);
        dueFree(desk, "500 A000001", 1);
        desk.put("500 A05", 1);
        dueFree(desk, "500 A05", 51);
        dueFree(desk, "500 A5", 5);
        dueFree(desk, "500 A005", 5);
        desk.put("500 A00001", 1);
        dueFree(desk, "500 A00001", 11);
        dueFree(desk, "500 Z999999", 999999);
    }

    private static void freeWithoutOne(int scheme) {
        due("free() of a new object", new Desk(scheme).free(), 0);
        Desk desk = new Desk(scheme);
        due("read() of a wrong one", desk.read("500 A"), scheme == 0 ? -6 : -5);
        due("free() behind a wrong one", desk.free(), 0);
    }

    private static void freeNone(int scheme) {
        Desk six = new Desk(scheme);
        six.put("500 A000001 1999", 1);
        dueFree(six, "500 A000001", 0);
        Desk five = new Desk(scheme);
        five.put("500 A12345", 1);
        for (int k = 1; k <= 9; k++) {
            due("free() before the " + k + "th", five.with("500 A12345").free(), 123450 + k);
            five.put("500 A12345" + k, 1);
        }
        dueFree(five, "500 A12345", 0);
        five.take(9);
        dueFree(five, "500 A12345", 123459);
    }

    // Promise 12

    private static void dueLines(int scheme, String text, int... signs) {
        Desk desk = new Desk(scheme).with(text);
        for (int k = 0; k < signs.length; k++) {
            due("spine(" + k + ") of '" + text + "'", desk.spine(k), signs[k]);
        }
    }

    private static void spineLines() {
        dueLines(0, "500 A1", 3, 2);
        dueLines(0, "500.1 A123456", 5, 7);
        dueLines(0, "500.123456789 A1 1999 v.1234z abcdefgh", 13, 2, 4, 7, 8);
        dueLines(0, "500 A1 v.1", 3, 2, 3);
        dueLines(0, "500 A1 1999 a", 3, 2, 4, 1);
    }

    private static void spineTwoLines() {
        dueLines(1, "Q5 A1", 1, 1, 2);
        dueLines(1, "QA5.1 A1 a", 2, 3, 2, 1);
        dueLines(1, "QAB1234.1234 A123456 1999 v.1a abcdefgh", 3, 9, 7, 4, 4, 8);
    }

    private static void spinePastTheLast() {
        duePastLines(0, "500 A1", 2);
        duePastLines(0, "500 A1 1999 v.1 a", 5);
        duePastLines(1, "Q5 A1", 3);
        duePastLines(1, "QAB5.1 A1 1999 v.1 a", 6);
    }

    private static void duePastLines(int scheme, String text, int lines) {
        Desk desk = new Desk(scheme).with("500 A1 1999 v.1 a").with(text);
        due("the last line of '" + text + "'", Math.min(desk.spine(lines - 1), 1), 1);
        for (int i : new int[] {lines, lines + 1, 7, GREATEST, -1, LEAST}) {
            due("spine(" + i + ") of '" + text + "'", desk.spine(i), NONE);
        }
    }

    private static void spineWithoutOne(int scheme) {
        for (int i : new int[] {LEAST, -1, 0, 1, 5, GREATEST}) {
            due("spine(" + i + ") of a new object", new Desk(scheme).spine(i), NONE);
            Desk desk = new Desk(scheme);
            desk.read("500 ");
            due("spine(" + i + ") behind a wrong text", desk.spine(i), NONE);
        }
    }

    // Promise 13

    private static void passBehind(int scheme) {
        Desk desk = threeOnTheShelf(scheme);
        desk.pass(5);
        due("pass(6) behind 5", desk.pass(6), 1);
        due("pass(7) behind 6", desk.pass(7), 1);
        Desk far = threeOnTheShelf(scheme);
        far.pass(5);
        due("pass(7) behind 5", far.pass(7), 1);
    }

    private static void passTheSame(int scheme) {
        Desk desk = threeOnTheShelf(scheme);
        desk.pass(6);
        due("pass(6) again", desk.pass(6), 1);
        due("pass(6) once more", desk.pass(6), 1);
    }

    private static void passFirst(int scheme) {
        for (int record = 5; record <= 7; record++) {
            due("pass(" + record + "), the first", threeOnTheShelf(scheme).pass(record), 1);
        }
        Desk desk = threeOnTheShelf(scheme);
        due("pass of none", desk.pass(9), NONE);
        due("pass(7) when still none was told", desk.pass(7), 1);
    }

    private static void passOutOfOrder(int scheme) {
        Desk desk = threeOnTheShelf(scheme);
        desk.pass(7);
        due("pass(6) behind 7", desk.pass(6), 0);
        due("pass(5) behind 6", desk.pass(5), 0);
        due("pass(6) behind 5, which was told before it", desk.pass(6), 1);
    }

    private static void passNotThere(int scheme) {
        Desk desk = threeOnTheShelf(scheme);
        for (int record : new int[] {LEAST, -1, 0, 4, 8, GREATEST}) {
            due("pass(" + record + ")", desk.pass(record), NONE);
        }
        desk.take(1);
        due("pass(6) of what was taken", desk.pass(6), NONE);
        desk.take(0);
        desk.take(0);
        due("pass(7) of what was taken last", desk.pass(7), NONE);
    }

    private static void passDoesNotCount(int scheme) {
        Desk desk = threeOnTheShelf(scheme);
        desk.pass(6);
        due("pass(9)", desk.pass(9), NONE);
        due("pass(5) behind 6", desk.pass(5), 0);
        due("pass(9)", desk.pass(9), NONE);
        due("pass(6) behind 5", desk.pass(6), 1);
    }

    private static void passFirstOfSeveral(int scheme) {
        Desk desk = new Desk(scheme);
        desk.put("700 A1", 5);
        desk.put("600 A1", 6);
        desk.put("500 A1", 5);
        due("pass(6)", desk.pass(6), 1);
        due("pass(5): the first, which is before 6", desk.pass(5), 0);
        due("pass(6)", desk.pass(6), 1);
        desk.take(0);
        due("pass(5): the one that is first now", desk.pass(5), 1);
        due("pass(6)", desk.pass(6), 0);
    }
}
