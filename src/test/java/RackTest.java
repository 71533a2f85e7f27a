/** Promises 15 to 20: insert, remove, set, get, find and size. */
final class RackTest {
    private static final int MIN = Integer.MIN_VALUE;
    private static final int MAX = Integer.MAX_VALUE;

    public static void main(String[] args) {
        Due due = new Due();
        insertMovesOn(due);
        insertRefusesFirstThenIsFull(due);
        removeMovesUp(due);
        setTellsWhatItWas(due);
        getTells(due);
        placesThatThereAreNot(due);
        findGoesForward(due);
        findGoesBack(due);
        sizeCutsAndFillsUp(due);
        due.finish();
    }

    private static void insertMovesOn(Due due) {
        CourierDesk desk = new CourierDesk();
        due.is("insert(0, 5)", desk.insert(0, 5), 1);
        due.is("insert(1, 7)", desk.insert(1, 7), 2);
        due.is("insert(0, MIN)", desk.insert(0, MIN), 3);
        due.is("insert(2, MAX)", desk.insert(2, MAX), 4);
        Desks.rackIs(due, "insert", desk, MIN, 5, MAX, 7);
        due.is("the pile stays", desk.count(1), 0);
    }

    private static void insertRefusesFirstThenIsFull(Due due) {
        CourierDesk desk = Desks.withRack(1, 2);
        for (int place : new int[] {3, -1, 600, MIN, MAX}) {
            due.is("insert(" + place + ", 9)", desk.insert(place, 9), Due.REFUSED);
        }
        Desks.rackIs(due, "refused", desk, 1, 2);
        desk.size(599);
        due.is("insert(599, 8)", desk.insert(599, 8), 600);
        due.is("insert(600, 9)", desk.insert(600, 9), Due.FULL);
        due.is("insert(0, 9)", desk.insert(0, 9), Due.FULL);
        due.is("insert(601, 9)", desk.insert(601, 9), Due.REFUSED);
        due.is("insert(-1, 9)", desk.insert(-1, 9), Due.REFUSED);
        due.is("get(0)", desk.get(0), 1);
        due.is("get(599)", desk.get(599), 8);
        due.is("count(0)", desk.count(0), 600);
    }

    private static void removeMovesUp(Due due) {
        CourierDesk desk = Desks.withRack(1, -2, 3, 4);
        due.is("remove(1)", desk.remove(1), -2);
        Desks.rackIs(due, "remove(1)", desk, 1, 3, 4);
        due.is("remove(2)", desk.remove(2), 4);
        due.is("remove(0)", desk.remove(0), 1);
        Desks.rackIs(due, "remove", desk, 3);
        due.is("remove(0)", desk.remove(0), 3);
        due.is("remove(0)", desk.remove(0), Due.APART);
        desk.size(600);
        desk.set(599, 6);
        due.is("remove(0) of 600", desk.remove(0), 0);
        due.is("get(598)", desk.get(598), 6);
        due.is("remove(598)", desk.remove(598), 6);
        due.is("count(0)", desk.count(0), 598);
    }

    private static void setTellsWhatItWas(Due due) {
        CourierDesk desk = Desks.withRack(1, 2, 3);
        due.is("set(2, MIN)", desk.set(2, MIN), 3);
        due.is("set(2, 5)", desk.set(2, 5), MIN);
        due.is("set(0, -1)", desk.set(0, -1), 1);
        Desks.rackIs(due, "set", desk, -1, 2, 5);
    }

    private static void getTells(Due due) {
        CourierDesk desk = Desks.withRack(MIN, -1, MAX);
        due.is("get(0)", desk.get(0), MIN);
        due.is("get(1)", desk.get(1), -1);
        due.is("get(2)", desk.get(2), MAX);
        due.is("count(0)", desk.count(0), 3);
    }

    private static void placesThatThereAreNot(Due due) {
        CourierDesk desk = Desks.withRack(1, 2, 3, 4);
        desk.size(3);
        for (int place : new int[] {3, -1, 599, 600, MIN, MAX}) {
            due.is("remove(" + place + ")", desk.remove(place), Due.APART);
            due.is("set(" + place + ", 9)", desk.set(place, 9), Due.APART);
            due.is("get(" + place + ")", desk.get(place), Due.APART);
            due.is("find(1, " + place + ", false)", desk.find(1, place, false), Due.REFUSED);
            due.is("find(1, " + place + ", true)", desk.find(1, place, true), Due.REFUSED);
        }
        Desks.rackIs(due, "nothing is changed", desk, 1, 2, 3);
    }

    private static void findGoesForward(Due due) {
        CourierDesk desk = Desks.withRack(7, 5, 7, 5, 6);
        due.is("find(7, 0, false)", desk.find(7, 0, false), 0);
        due.is("find(7, 1, false)", desk.find(7, 1, false), 2);
        due.is("find(5, 3, false)", desk.find(5, 3, false), 3);
        due.is("find(7, 3, false)", desk.find(7, 3, false), Due.REFUSED);
        due.is("find(6, 4, false)", desk.find(6, 4, false), 4);
        due.is("find(8, 0, false)", desk.find(8, 0, false), Due.REFUSED);
        desk.size(4);
        due.is("find(6, 0, false), which went", desk.find(6, 0, false), Due.REFUSED);
    }

    private static void findGoesBack(Due due) {
        CourierDesk desk = Desks.withRack(7, 5, 7, 5, 6);
        due.is("find(7, 4, true)", desk.find(7, 4, true), 2);
        due.is("find(7, 2, true)", desk.find(7, 2, true), 2);
        due.is("find(7, 1, true)", desk.find(7, 1, true), 0);
        due.is("find(5, 0, true)", desk.find(5, 0, true), Due.REFUSED);
        due.is("find(6, 3, true)", desk.find(6, 3, true), Due.REFUSED);
        due.is("find(7, 5, true), behind the end", desk.find(7, 5, true), Due.REFUSED);
    }

    private static void sizeCutsAndFillsUp(Due due) {
        CourierDesk desk = Desks.withRack(1, 2, 3, 4, 5);
        due.is("size(2)", desk.size(2), 2);
        Desks.rackIs(due, "size(2)", desk, 1, 2);
        due.is("size(4)", desk.size(4), 4);
        Desks.rackIs(due, "size(4)", desk, 1, 2, 0, 0);
        for (int n : new int[] {-1, 601, MIN, MAX}) {
            due.is("size(" + n + ")", desk.size(n), Due.REFUSED);
        }
        Desks.rackIs(due, "refused", desk, 1, 2, 0, 0);
        due.is("size(600)", desk.size(600), 600);
        due.is("get(599)", desk.get(599), 0);
        desk.turn(2, 8);
        due.is("size(0)", desk.size(0), 0);
        due.is("count(0)", desk.count(0), 0);
        due.is("size(600)", desk.size(600), 600);
        due.is("all are 0", desk.tell(2, 0), 600);
    }
}
