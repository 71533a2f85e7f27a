/** Compares answers with those that are due, and ends the test with exit code 1 if one was wrong. */
final class Due {
    static final long APART = 1099511627776L;
    static final int REFUSED = -1;
    static final int FULL = -3;

    private String sentence = "";
    private int asked = 0;
    private int askedBefore = -1;
    private int wrong = 0;

    /** The answers from here on belong to these words of the document; one at least must follow. */
    void says(String where, String words) {
        says(where, words, "");
    }

    /** As says, for one edge that the words mean without naming it. */
    void says(String where, String words, String edge) {
        closeSentence();
        sentence = where + ", \"" + words + "\"" + (edge.isEmpty() ? "" : " (" + edge + ")") + ": ";
        askedBefore = asked;
    }

    private void closeSentence() {
        if (asked == askedBefore) {
            wrong++;
            System.out.println(sentence + "no answer was compared");
        }
    }

    void is(String call, long got, long want) {
        asked++;
        if (got != want) {
            wrong++;
            System.out.println(sentence + call + " answered " + got + ", due is " + want);
        }
    }

    void holds(String what, boolean asDue) {
        is(what, asDue ? 1 : 0, 1);
    }

    void same(String what, String got, String want) {
        asked++;
        if (!got.equals(want)) {
            wrong++;
            System.out.println(sentence + what + " is \"" + got + "\", due is \"" + want + "\"");
        }
    }

    void finish() {
        closeSentence();
        if (wrong != 0 || asked == 0) {
            System.out.println(wrong + " of " + asked + " answers are not as due");
            System.exit(1);
        }
    }
}
