/** Told by CallsTest's copy of the program how many calls an object has had. */
final class Calls {
    private static final int PROMISED = 512;
    private static final int SHOWN = 5;
    /** "FULL with 600." can't be seen with fewer calls. */
    private static final String MAY_GO_BEYOND = "fullWith600";

    private static int told = 0;
    private static int beyond = 0;

    private Calls() {
    }

    static void tell(int calls) {
        told++;
        if (calls == PROMISED + 1 && !mayGoBeyond()) {
            beyond++;
            if (beyond <= SHOWN) {
                new Throwable("an object is used for more than " + PROMISED + " calls").printStackTrace(System.out);
            }
        }
    }

    private static boolean mayGoBeyond() {
        return StackWalker.getInstance().walk(
                frames -> frames.anyMatch(frame -> frame.getMethodName().equals(MAY_GO_BEYOND)));
    }

    static int told() {
        return told;
    }

    static int beyond() {
        return beyond;
    }
}
