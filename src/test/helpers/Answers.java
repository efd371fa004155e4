/** Counts the answers that are asked for and tells those that are not the ones that are due. */
final class Answers {
    /** Stands for the answer of a call that throws what the document names. */
    static final long THROWS = Long.MIN_VALUE;

    private static String topic = "";
    private static int asked = 0;
    private static int wrong = 0;

    private Answers() {
    }

    /** What the next answers are about; told in front of each that is wrong. */
    static void about(String words) {
        topic = words;
    }

    static void due(String call, long got, long want) {
        asked++;
        if (got != want) {
            fault(call + " answered " + told(got) + ", due is " + told(want));
        }
    }

    static void fault(String text) {
        wrong++;
        System.out.println(topic.isEmpty() ? text : "'" + topic + "': " + text);
    }

    static int asked() {
        return asked;
    }

    /** Ends the test: with exit code 1 if an answer was not as due, or if none was asked for. */
    static void end() {
        about("");
        if (asked == 0) {
            fault("nothing was asked");
        }
        System.out.println(wrong == 0 ? "all " + asked + " answers are as due"
                : wrong + " of " + asked + " answers are not as due");
        System.exit(wrong == 0 ? 0 : 1);
    }

    private static String told(long answer) {
        return answer == THROWS ? "throws.ArrayIndexOutOfBoundsException" : Long.toString(answer);
    }
}
