/** The boundary cases that promises 2, 3 and 6 name: feed, end and check. */
final class TapeEdgeTest {
    private static final int MIN = Integer.MIN_VALUE;
    private static final int MAX = Integer.MAX_VALUE;

    public static void main(String[] args) {
        Due due = new Due();
        theHighestFirst(due);
        howManyItHas(due);
        upTo400(due);
        fullBeyond400(due);
        firstBytes(due);
        cutToNothing(due);
        cutToAll(due);
        refusedIfItHasLess(due);
        refusedBelow0(due);
        fromUpToBefore(due);
        apartForOtherPlaces(due);
        mustNotFall(due);
        ofAnEmptyTape(due);
        due.finish();
    }

    private static void theHighestFirst(Due due) {
        due.says("Promise 2", "Twenty bytes, five times four, the highest of each first");
        CourierDesk desk = new CourierDesk();
        due.is("feed", desk.feed(MIN, -1, 0x00FF00FE, 1, MAX), 20);
        Desks.tapeIs(due, "feed", desk, "\u0080\0\0\0\u00ff\u00ff\u00ff\u00ff\0\u00ff\0\u00fe\0\0\0\u0001"
                + "\u007f\u00ff\u00ff\u00ff");
    }

    private static void howManyItHas(Due due) {
        due.says("Promise 2", "come to the TAPE: how many it has");
        CourierDesk desk = new CourierDesk();
        due.is("feed", desk.feed(1, 1, 1, 1, 1), 20);
        due.is("feed", desk.feed(2, 2, 2, 2, 2), 40);
        desk.end(1);
        due.is("feed behind one byte", desk.feed(0x61626364, 0, 0, 0, 0), 21);
        Desks.tapeIs(due, "feed behind one byte", desk, "\0abcd" + "\0".repeat(16));
    }

    private static CourierDesk withBytes(int length) {
        return Desks.withTape("x".repeat(length));
    }

    private static void upTo400(Due due) {
        due.says("Promise 2", "FULL if it would have more than 400.", "400 it may have");
        CourierDesk desk = withBytes(380);
        due.is("feed behind 380", desk.feed(0x61616161, 0, 0, 0, 0x7A7A7A79), 400);
        due.is("count(2)", desk.count(2), 400);
        Desks.tapeIs(due, "feed behind 380", desk, "x".repeat(380) + "aaaa" + "\0".repeat(12) + "zzzy");
        due.is("feed behind 379", withBytes(379).feed(1, 2, 3, 4, 5), 399);
    }

    private static void fullBeyond400(Due due) {
        due.says("Promise 2", "FULL if it would have more than 400.");
        for (int length : new int[] {381, 382, 399, 400}) {
            CourierDesk desk = withBytes(length);
            due.is("feed behind " + length, desk.feed(1, 2, 3, 4, 5), Due.FULL);
            due.is("count(2)", desk.count(2), length);
            Desks.tapeIs(due, "feed behind " + length, desk, "x".repeat(length));
            desk.end(0);
            due.is("feed of the emptied TAPE", desk.feed(1, 2, 3, 4, 5), 20);
        }
    }

    private static void firstBytes(Due due) {
        due.says("Promise 3", "The TAPE is cut to its first n bytes: n");
        CourierDesk desk = Desks.withTape("abcdef");
        due.is("end(5)", desk.end(5), 5);
        Desks.tapeIs(due, "end(5)", desk, "abcde");
        due.is("end(1)", desk.end(1), 1);
        Desks.tapeIs(due, "end(1)", desk, "a");
    }

    private static void cutToNothing(Due due) {
        due.says("Promise 3", "The TAPE is cut to its first n bytes: n", "none");
        CourierDesk desk = Desks.withTape("abcdef");
        due.is("end(0)", desk.end(0), 0);
        due.is("count(2)", desk.count(2), 0);
        due.is("end(0) of none", desk.end(0), 0);
        due.is("end(0) of a new one", new CourierDesk().end(0), 0);
    }

    private static void cutToAll(Due due) {
        due.says("Promise 3", "The TAPE is cut to its first n bytes: n", "all that it has");
        CourierDesk desk = Desks.withTape("abcdef");
        due.is("end(6)", desk.end(6), 6);
        Desks.tapeIs(due, "end(6)", desk, "abcdef");
        due.is("end(400) of 400", withBytes(400).end(400), 400);
    }

    private static void refusedIfItHasLess(Due due) {
        due.says("Promise 3", "REFUSED if it has less");
        CourierDesk desk = Desks.withTape("abcdef");
        for (int n : new int[] {7, 20, 400, 401, MAX}) {
            due.is("end(" + n + ")", desk.end(n), Due.REFUSED);
        }
        Desks.tapeIs(due, "refused", desk, "abcdef");
        due.is("end(1) of a new one", new CourierDesk().end(1), Due.REFUSED);
        due.is("end(401) of 400", withBytes(400).end(401), Due.REFUSED);
    }

    private static void refusedBelow0(Due due) {
        due.says("Promise 3", "or n is below 0.");
        CourierDesk desk = Desks.withTape("abcdef");
        for (int n : new int[] {-1, -2, -6, MIN}) {
            due.is("end(" + n + ")", desk.end(n), Due.REFUSED);
        }
        Desks.tapeIs(due, "refused", desk, "abcdef");
        due.is("end(-1) of a new one", new CourierDesk().end(-1), Due.REFUSED);
    }

    private static void fromUpToBefore(Due due) {
        due.says("Promise 6", "The CHECK of the TAPE's bytes from place from to before to.");
        CourierDesk desk = Desks.withTape("0123456789");
        due.is("check(1, 10)", desk.check(1, 10), 3808858755L);
        due.is("check(0, 10)", desk.check(0, 10), Desks.libraryCheck("0123456789"));
        due.is("check(0, 1)", desk.check(0, 1), Desks.libraryCheck("0"));
        due.is("check(9, 10)", desk.check(9, 10), Desks.libraryCheck("9"));
        due.is("check(4, 6)", desk.check(4, 6), Desks.libraryCheck("45"));
        due.is("check(0, 400)", withBytes(400).check(0, 400), Desks.libraryCheck("x".repeat(400)));
    }

    private static void apartForOtherPlaces(Due due) {
        due.says("Promise 6", "APART for places that there are not.");
        CourierDesk desk = Desks.withTape("abcdef");
        desk.end(3);
        int[][] parts = {{0, 4}, {3, 4}, {4, 4}, {-1, 3}, {-1, -1}, {0, 400}, {0, 401}, {MIN, 3}, {0, MAX}, {MAX, MAX}};
        for (int[] part : parts) {
            due.is("check(" + part[0] + ", " + part[1] + ")", desk.check(part[0], part[1]), Due.APART);
        }
        due.is("check(0, 401) of 400", withBytes(400).check(0, 401), Due.APART);
    }

    private static void mustNotFall(Due due) {
        due.says("Promise 6", "(0, from, to, the TAPE's length must not fall.)");
        CourierDesk desk = Desks.withTape("abc");
        due.is("check(0, 3): 0, 0, 3, 3", desk.check(0, 3), Desks.libraryCheck("abc"));
        due.is("check(0, 0): 0, 0, 0, 3", desk.check(0, 0), 0);
        due.is("check(3, 3): 0, 3, 3, 3", desk.check(3, 3), 0);
        due.is("check(2, 2): 0, 2, 2, 3", desk.check(2, 2), 0);
        due.is("check(2, 3): 0, 2, 3, 3", desk.check(2, 3), Desks.libraryCheck("c"));
        due.is("check(-1, 2): from falls", desk.check(-1, 2), Due.APART);
        due.is("check(2, 1): to falls", desk.check(2, 1), Due.APART);
        due.is("check(1, 0): to falls", desk.check(1, 0), Due.APART);
        due.is("check(3, 0): to falls", desk.check(3, 0), Due.APART);
        due.is("check(0, -1): to falls", desk.check(0, -1), Due.APART);
        due.is("check(1, 4): the length falls", desk.check(1, 4), Due.APART);
    }

    private static void ofAnEmptyTape(Due due) {
        due.says("Promise 6", "(0, from, to, the TAPE's length must not fall.)", "an empty TAPE");
        CourierDesk desk = new CourierDesk();
        due.is("check(0, 0)", desk.check(0, 0), 0);
        for (int[] part : new int[][] {{0, 1}, {1, 1}, {-1, 0}, {-1, -1}, {1, 0}}) {
            due.is("check(" + part[0] + ", " + part[1] + ")", desk.check(part[0], part[1]), Due.APART);
        }
    }
}
