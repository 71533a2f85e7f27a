/** Terms: "What is out of range: REFUSED, by calls that answer longs APART (2^40), and nothing is changed." */
final class NothingIsChangedTest {
    private static final int MIN = Integer.MIN_VALUE;
    private static final int MAX = Integer.MAX_VALUE;

    private interface Call {
        long on(CourierDesk desk);
    }

    private interface Maker {
        CourierDesk make();
    }

    private final Due due = new Due();

    public static void main(String[] args) {
        NothingIsChangedTest test = new NothingIsChangedTest();
        test.due.is("2^40", Due.APART, 1L << 40);
        test.tapeCalls();
        test.wordCalls();
        test.placeCalls();
        test.otherRackCalls();
        test.pileCalls();
        test.askingCalls();
        test.emptyDesk();
        test.fullDesk();
        test.due.finish();
    }

    /** One desk gets the call and its twin does not; then both must hold the same. */
    private void same(Maker maker, String name, Call call, long answer) {
        CourierDesk desk = maker.make();
        due.is(name, call.on(desk), answer);
        Parts.of(desk).compare(due, name, Parts.of(maker.make()));
    }

    private void refused(String name, Call call) {
        same(Parts::busyDesk, name, call, Due.REFUSED);
    }

    private void apart(String name, Call call) {
        same(Parts::busyDesk, name, call, Due.APART);
    }

    private void says(String promise, String words) {
        due.says("Terms", "and nothing is changed", promise + ": " + words);
    }

    private void tapeCalls() {
        says("promise 3", "REFUSED if it has less, or n is below 0.");
        for (int n : new int[] {-1, 10, 11, 400, 401, MIN, MAX}) {
            refused("end(" + n + ")", desk -> desk.end(n));
        }
        says("promise 5", "REFUSED if it means none");
        for (boolean safe : new boolean[] {false, true}) {
            refused("read(" + safe + ")", desk -> desk.read(safe));
        }
        says("promise 6", "APART for places that there are not.");
        int[][] parts = {{-1, 0}, {-1, 9}, {0, 10}, {9, 10}, {10, 10}, {5, 4}, {9, 0}, {0, -1}, {MIN, MAX}, {MAX, MIN}};
        for (int[] part : parts) {
            apart("check(" + part[0] + ", " + part[1] + ")", desk -> desk.check(part[0], part[1]));
        }
    }

    private void wordCalls() {
        says("promise 7", "REFUSED for other signs.");
        for (int sign : new int[] {-1, 128, 255, MIN, MAX}) {
            refused("words(" + sign + ", 32, 32, false)", desk -> desk.words(sign, 32, 32, false));
            refused("words(32, " + sign + ", 32, true)", desk -> desk.words(32, sign, 32, true));
            refused("words(32, 32, " + sign + ", false)", desk -> desk.words(32, 32, sign, false));
        }
        says("promise 8", "REFUSED if there is none.");
        for (int k : new int[] {-1, 8, 9, 400, MIN, MAX}) {
            refused("word(" + k + ")", desk -> desk.word(k));
        }
        says("promise 9", "REFUSED if there is none.");
        for (int i : new int[] {-2, 2, 3, 536, MIN, MAX}) {
            refused("octet(" + i + ")", desk -> desk.octet(i));
        }
    }

    private void placeCalls() {
        says("promise 15", "REFUSED for a place beyond its end");
        for (int place : new int[] {-1, 6, 7, 600, MIN, MAX}) {
            refused("insert(" + place + ", 1)", desk -> desk.insert(place, 1));
        }
        for (int place : new int[] {-1, 5, 6, 600, MIN, MAX}) {
            says("promise 16", "at a place");
            apart("remove(" + place + ")", desk -> desk.remove(place));
            says("promise 17", "It becomes another one");
            apart("set(" + place + ", 1)", desk -> desk.set(place, 1));
            says("promise 18", "It.");
            apart("get(" + place + ")", desk -> desk.get(place));
            says("promise 19", "or the place is out of range");
            refused("find(3, " + place + ", false)", desk -> desk.find(3, place, false));
            refused("find(3, " + place + ", true)", desk -> desk.find(3, place, true));
            says("promise 22", "Two places of the rack");
            refused("swap(0, " + place + ")", desk -> desk.swap(0, place));
            refused("swap(" + place + ", 0)", desk -> desk.swap(place, 0));
            refused("swap twice " + place, desk -> desk.swap(place, place));
        }
    }

    private void otherRackCalls() {
        says("promise 19", "REFUSED if there is none");
        refused("find(8, 0, false)", desk -> desk.find(8, 0, false));
        refused("find(8, 4, true)", desk -> desk.find(8, 4, true));
        says("promise 20", "(0 to 600)");
        for (int n : new int[] {-1, 601, MIN, MAX}) {
            refused("size(" + n + ")", desk -> desk.size(n));
        }
        says("promise 21", "REFUSED for another op");
        for (int op : new int[] {-1, 4, 5, MIN, MAX}) {
            refused("turn(" + op + ", 1)", desk -> desk.turn(op, 1));
        }
    }

    private void pileCalls() {
        says("promise 14", "REFUSED if it is not there.");
        refused("search(3), which went", desk -> desk.search(3));
        refused("search(5)", desk -> desk.search(5));
    }

    private void askingCalls() {
        says("promise 23", "APART for another what");
        for (int what : new int[] {-1, 6, 7, MIN, MAX}) {
            apart("tell(" + what + ", 3)", desk -> desk.tell(what, 3));
        }
        says("promise 26", "REFUSED for others.");
        for (int what : new int[] {-1, 4, 5, MIN, MAX}) {
            refused("count(" + what + ")", desk -> desk.count(what));
        }
    }

    /** Behind the ends of its rows all that the busy desk had is still lying. */
    private static CourierDesk emptiedDesk() {
        CourierDesk desk = Parts.busyDesk();
        desk.end(0);
        desk.words(1, 2, 3, true);
        desk.write(false, false);
        desk.size(0);
        for (int i = 0; i < 3; i++) {
            desk.pop(false);
        }
        return desk;
    }

    private void empty(String name, Call call, long answer) {
        same(NothingIsChangedTest::emptiedDesk, name, call, answer);
    }

    private void emptyDesk() {
        says("promise 13", "APART if it is empty.");
        empty("pop(true) of none", desk -> desk.pop(true), Due.APART);
        empty("pop(false) of none", desk -> desk.pop(false), Due.APART);
        says("promise 23", "or (0, 1) if it is empty.");
        empty("tell(0, 0) of none", desk -> desk.tell(0, 0), Due.APART);
        empty("tell(1, 0) of none", desk -> desk.tell(1, 0), Due.APART);
        says("the other promises", "an empty desk");
        empty("end(1)", desk -> desk.end(1), Due.REFUSED);
        empty("check(0, 1)", desk -> desk.check(0, 1), Due.APART);
        empty("word(0)", desk -> desk.word(0), Due.REFUSED);
        empty("octet(0)", desk -> desk.octet(0), Due.REFUSED);
        empty("search(7)", desk -> desk.search(7), Due.REFUSED);
        empty("insert(1, 1)", desk -> desk.insert(1, 1), Due.REFUSED);
        empty("remove(0)", desk -> desk.remove(0), Due.APART);
        empty("set(0, 1)", desk -> desk.set(0, 1), Due.APART);
        empty("get(0)", desk -> desk.get(0), Due.APART);
        empty("find(3, 0, false)", desk -> desk.find(3, 0, false), Due.REFUSED);
        empty("find(3, 0, true)", desk -> desk.find(3, 0, true), Due.REFUSED);
        empty("swap(0, 0)", desk -> desk.swap(0, 0), Due.REFUSED);
    }

    private static CourierDesk filledDesk() {
        CourierDesk desk = Parts.busyDesk();
        desk.end(0);
        for (int i = 1; i <= 20; i++) {
            desk.feed(i, -i, i << 8, i << 16, i << 24);
        }
        desk.size(600);
        desk.set(599, 44);
        return desk;
    }

    private void full(String name, Call call, long answer) {
        same(NothingIsChangedTest::filledDesk, name, call, answer);
    }

    private void fullDesk() {
        says("promise 2", "FULL if it would have more than 400.");
        full("feed(6, 7, 8, 9, 10)", desk -> desk.feed(6, 7, 8, 9, 10), Due.FULL);
        says("promise 15", "REFUSED for a place beyond its end (first); FULL.");
        full("insert(0, 1)", desk -> desk.insert(0, 1), Due.FULL);
        full("insert(600, 1)", desk -> desk.insert(600, 1), Due.FULL);
        full("insert(601, 1)", desk -> desk.insert(601, 1), Due.REFUSED);
        full("insert(-1, 1)", desk -> desk.insert(-1, 1), Due.REFUSED);
        says("promise 20", "(0 to 600)");
        full("size(601)", desk -> desk.size(601), Due.REFUSED);
        says("promise 21", "FULL (3).");
        full("turn(3, 0)", desk -> desk.turn(3, 0), Due.FULL);
        full("turn(4, 0)", desk -> desk.turn(4, 0), Due.REFUSED);
    }
}
