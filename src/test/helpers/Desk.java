/**
 * An object of the class that is asked by texts instead of signs. Its calls are counted: what it
 * answers past the 512th would prove nothing.
 */
final class Desk {
    private static final int MOST_CALLS = 512;

    private final CallNumbers object;
    private final int scheme;
    private int calls = 0;

    Desk(int scheme) {
        this.scheme = scheme;
        object = new CallNumbers(scheme);
    }

    /**
     * One text serves both schemes: a class that begins 100, 200, .. 900 is in scheme 1 the class
     * Q1, Q2, .. Q9, which is one sign shorter and has the same order. Other texts stay as they are.
     */
    static String inScheme(int scheme, String text) {
        return scheme >= 1 ? text.replaceFirst("^([1-9])00", "Q$1") : text;
    }

    private CallNumbers called() {
        if (calls >= MOST_CALLS) {
            throw new IllegalStateException("the test makes more than " + MOST_CALLS + " calls");
        }
        calls++;
        return object;
    }

    int calls() {
        return calls;
    }

    /** Collects just these signs. */
    Desk collect(String signs) {
        for (char c : signs.toCharArray()) {
            sign(c);
        }
        return this;
    }

    int read(String text) {
        return collect(inScheme(scheme, text)).read();
    }

    /** Reads what must be a call number. */
    Desk with(String text) {
        int parts = read(text);
        if (parts < 2) {
            Answers.fault("read() of '" + inScheme(scheme, text) + "' answered " + parts);
        }
        return this;
    }

    int put(String text, int record) {
        return with(text).put(record);
    }

    void sign(int c) {
        called().sign(c);
    }

    int read() {
        return called().read();
    }

    long part(int i) {
        try {
            return called().part(i);
        } catch (ArrayIndexOutOfBoundsException e) {
            return Answers.THROWS;
        }
    }

    int letter(int i) {
        return called().letter(i);
    }

    int put(int record) {
        return called().put(record);
    }

    int shelf(int place) {
        return called().shelf(place);
    }

    int take(int place) {
        return called().take(place);
    }

    int compare(int a, int b) {
        return called().compare(a, b);
    }

    int before() {
        return called().before();
    }

    int free() {
        return called().free();
    }

    int spine(int i) {
        return called().spine(i);
    }

    int pass(int record) {
        return called().pass(record);
    }
}
