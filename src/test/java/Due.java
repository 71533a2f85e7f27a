/** Compares answers with those that are due, and ends the test with exit code 1 if one was wrong. */
final class Due {
    static final long APART = 1099511627776L;
    static final int REFUSED = -1;
    static final int FULL = -3;

    private int asked = 0;
    private int wrong = 0;

    void is(String call, long got, long want) {
        asked++;
        if (got != want) {
            wrong++;
            System.out.println(call + " answered " + got + ", due is " + want);
        }
    }

    void holds(String what, boolean asDue) {
        is(what, asDue ? 1 : 0, 1);
    }

    void finish() {
        if (wrong != 0 || asked == 0) {
            System.out.println(wrong + " of " + asked + " answers are not as due");
            System.exit(1);
        }
    }
}
