/** The boundary cases that promises 15 to 20 name: insert, remove, set, get, find and size. */
final class RackEdgeTest {
    private static final int MIN = Integer.MIN_VALUE;
    private static final int MAX = Integer.MAX_VALUE;

    public static void main(String[] args) {
        Due due = new Due();
        insertMovesOn(due);
        insertAtTheEnd(due);
        insertBeyondTheEnd(due);
        insertRefusedFirst(due);
        insertFull(due);
        removeMovesUp(due);
        removeOutOfRange(due);
        setTells(due);
        setOutOfRange(due);
        getTells(due);
        getOutOfRange(due);
        findFirst(due);
        findLast(due);
        findNone(due);
        findOutOfRange(due);
        sizeInRange(due);
        sizeOutOfRange(due);
        sizeCuts(due);
        sizeBringsZeros(due);
        due.finish();
    }

    private static void insertMovesOn(Due due) {
        due.says("Promise 15", "A number comes into the rack at a place, those from there on move on: how many it has");
        CourierDesk desk = new CourierDesk();
        due.is("insert(0, 5) into none", desk.insert(0, 5), 1);
        due.is("insert(0, MIN)", desk.insert(0, MIN), 2);
        due.is("insert(1, MAX)", desk.insert(1, MAX), 3);
        Desks.rackIs(due, "insert", desk, MIN, MAX, 5);
    }

    private static void insertAtTheEnd(Due due) {
        due.says("Promise 15", "REFUSED for a place beyond its end", "its end itself is a place");
        CourierDesk desk = Desks.withRack(1, 2);
        due.is("insert(2, 3)", desk.insert(2, 3), 3);
        Desks.rackIs(due, "insert(2, 3)", desk, 1, 2, 3);
        desk.size(599);
        due.is("insert(599, 4)", desk.insert(599, 4), 600);
        due.is("get(599)", desk.get(599), 4);
    }

    private static void insertBeyondTheEnd(Due due) {
        due.says("Promise 15", "REFUSED for a place beyond its end");
        CourierDesk desk = Desks.withRack(1, 2, 3, 4);
        desk.size(2);
        for (int place : new int[] {3, 4, 599, 600, 601, MAX, -1, -2, MIN}) {
            due.is("insert(" + place + ", 9)", desk.insert(place, 9), Due.REFUSED);
        }
        Desks.rackIs(due, "refused", desk, 1, 2);
        due.is("insert(1, 9) into none", new CourierDesk().insert(1, 9), Due.REFUSED);
        due.is("insert(-1, 9) into none", new CourierDesk().insert(-1, 9), Due.REFUSED);
    }

    private static CourierDesk withFullRack() {
        CourierDesk desk = Desks.withRack(1, 2);
        desk.size(600);
        desk.set(599, 3);
        return desk;
    }

    private static void insertRefusedFirst(Due due) {
        due.says("Promise 15", "(first)");
        CourierDesk desk = withFullRack();
        for (int place : new int[] {601, 602, MAX, -1, MIN}) {
            due.is("insert(" + place + ", 9) into 600", desk.insert(place, 9), Due.REFUSED);
        }
        due.is("count(0)", desk.count(0), 600);
    }

    private static void insertFull(Due due) {
        due.says("Promise 15", "FULL.");
        CourierDesk desk = withFullRack();
        for (int place : new int[] {0, 1, 599, 600}) {
            due.is("insert(" + place + ", 9) into 600", desk.insert(place, 9), Due.FULL);
        }
        due.is("count(0)", desk.count(0), 600);
        due.is("tell(2, 9)", desk.tell(2, 9), 0);
        due.is("get(0)", desk.get(0), 1);
        due.is("get(599)", desk.get(599), 3);
        desk.remove(1);
        due.is("insert(0, 9) into 599", desk.insert(0, 9), 600);
        due.is("get(599)", desk.get(599), 3);
    }

    private static void removeMovesUp(Due due) {
        due.says("Promise 16", "The rack's number at a place goes, those behind move up: it.");
        CourierDesk desk = Desks.withRack(MIN, 1, 2, MAX);
        due.is("remove(0), the first", desk.remove(0), MIN);
        Desks.rackIs(due, "remove(0)", desk, 1, 2, MAX);
        due.is("remove(2), the last", desk.remove(2), MAX);
        Desks.rackIs(due, "remove(2)", desk, 1, 2);
        due.is("remove(0)", desk.remove(0), 1);
        due.is("remove(0), the only one", desk.remove(0), 2);
        due.is("count(0)", desk.count(0), 0);
        CourierDesk full = withFullRack();
        due.is("remove(0) of 600", full.remove(0), 1);
        due.is("get(598)", full.get(598), 3);
        due.is("count(0)", full.count(0), 599);
    }

    private static void removeOutOfRange(Due due) {
        due.says("Promise 16", "The rack's number at a place goes", "APART out of range");
        CourierDesk desk = Desks.withRack(1, 2, 3);
        desk.size(2);
        for (int place : new int[] {2, 3, -1, 600, MIN, MAX}) {
            due.is("remove(" + place + ")", desk.remove(place), Due.APART);
        }
        Desks.rackIs(due, "refused", desk, 1, 2);
        due.is("remove(0) of none", new CourierDesk().remove(0), Due.APART);
        due.is("remove(600) of 600", withFullRack().remove(600), Due.APART);
    }

    private static void setTells(Due due) {
        due.says("Promise 17", "It becomes another one: what it was.");
        CourierDesk desk = Desks.withRack(MIN, 1, MAX);
        due.is("set(0, 7)", desk.set(0, 7), MIN);
        due.is("set(2, 8)", desk.set(2, 8), MAX);
        due.is("set(2, MIN)", desk.set(2, MIN), 8);
        due.is("set(2, MIN) again", desk.set(2, MIN), MIN);
        Desks.rackIs(due, "set", desk, 7, 1, MIN);
        due.is("set(599, 4) of 600", withFullRack().set(599, 4), 3);
    }

    private static void setOutOfRange(Due due) {
        due.says("Promise 17", "It becomes another one", "APART out of range");
        CourierDesk desk = Desks.withRack(1, 2, 3);
        desk.size(2);
        for (int place : new int[] {2, 3, -1, 600, MIN, MAX}) {
            due.is("set(" + place + ", 9)", desk.set(place, 9), Due.APART);
        }
        Desks.rackIs(due, "refused", desk, 1, 2);
        due.is("set(0, 9) of none", new CourierDesk().set(0, 9), Due.APART);
        due.is("set(600, 9) of 600", withFullRack().set(600, 9), Due.APART);
    }

    private static void getTells(Due due) {
        due.says("Promise 18", "It.");
        CourierDesk desk = Desks.withRack(MIN, -1, MAX);
        due.is("get(0)", desk.get(0), MIN);
        due.is("get(1)", desk.get(1), -1);
        due.is("get(2)", desk.get(2), MAX);
        due.is("get(599) of 600", withFullRack().get(599), 3);
    }

    private static void getOutOfRange(Due due) {
        due.says("Promise 18", "It.", "APART out of range");
        CourierDesk desk = Desks.withRack(1, 2, 3);
        desk.size(2);
        for (int place : new int[] {2, 3, -1, 600, MIN, MAX}) {
            due.is("get(" + place + ")", desk.get(place), Due.APART);
        }
        due.is("get(0) of none", new CourierDesk().get(0), Due.APART);
        due.is("get(600) of 600", withFullRack().get(600), Due.APART);
    }

    private static void findFirst(Due due) {
        due.says("Promise 19", "place of a number in the rack at or behind (at or before) a place", "the first");
        CourierDesk desk = Desks.withRack(7, 5, 7, 7, 5);
        due.is("find(7, 0, false), at the first", desk.find(7, 0, false), 0);
        due.is("find(7, 1, false), behind it", desk.find(7, 1, false), 2);
        due.is("find(7, 3, false), at it", desk.find(7, 3, false), 3);
        due.is("find(5, 2, false)", desk.find(5, 2, false), 4);
        due.is("find(5, 4, false), at the last", desk.find(5, 4, false), 4);
        CourierDesk full = withFullRack();
        due.is("find(3, 0, false) of 600", full.find(3, 0, false), 599);
        due.is("find(3, 599, false) of 600", full.find(3, 599, false), 599);
    }

    private static void findLast(Due due) {
        due.says("Promise 19", "place of a number in the rack at or behind (at or before) a place", "the last");
        CourierDesk desk = Desks.withRack(7, 5, 7, 7, 5);
        due.is("find(5, 4, true), at the last", desk.find(5, 4, true), 4);
        due.is("find(7, 4, true), before it", desk.find(7, 4, true), 3);
        due.is("find(7, 2, true), at it", desk.find(7, 2, true), 2);
        due.is("find(5, 3, true)", desk.find(5, 3, true), 1);
        due.is("find(7, 0, true), at the first", desk.find(7, 0, true), 0);
        CourierDesk full = withFullRack();
        due.is("find(1, 599, true) of 600", full.find(1, 599, true), 0);
        due.is("find(3, 599, true) of 600", full.find(3, 599, true), 599);
    }

    private static void findNone(Due due) {
        due.says("Promise 19", "REFUSED if there is none");
        CourierDesk desk = Desks.withRack(7, 5, 6, 8);
        desk.size(3);
        due.is("find(9, 0, false)", desk.find(9, 0, false), Due.REFUSED);
        due.is("find(9, 2, true)", desk.find(9, 2, true), Due.REFUSED);
        due.is("find(7, 1, false), only before", desk.find(7, 1, false), Due.REFUSED);
        due.is("find(6, 1, true), only behind", desk.find(6, 1, true), Due.REFUSED);
        due.is("find(8, 0, false), which went", desk.find(8, 0, false), Due.REFUSED);
        due.is("find(8, 2, true), which went", desk.find(8, 2, true), Due.REFUSED);
    }

    private static void findOutOfRange(Due due) {
        due.says("Promise 19", "or the place is out of range.");
        CourierDesk desk = Desks.withRack(7, 7, 7, 7);
        desk.size(3);
        for (int place : new int[] {3, 4, -1, 600, MIN, MAX}) {
            due.is("find(7, " + place + ", false)", desk.find(7, place, false), Due.REFUSED);
            due.is("find(7, " + place + ", true)", desk.find(7, place, true), Due.REFUSED);
        }
        due.is("find(0, 0, false) of none", new CourierDesk().find(0, 0, false), Due.REFUSED);
        due.is("find(0, 0, true) of none", new CourierDesk().find(0, 0, true), Due.REFUSED);
        due.is("find(3, 600, true) of 600", withFullRack().find(3, 600, true), Due.REFUSED);
        due.is("find(3, 600, false) of 600", withFullRack().find(3, 600, false), Due.REFUSED);
    }

    private static void sizeInRange(Due due) {
        due.says("Promise 20", "The rack has n numbers (0 to 600)");
        CourierDesk desk = new CourierDesk();
        for (int n : new int[] {0, 1, 600, 599, 600, 0}) {
            due.is("size(" + n + ")", desk.size(n), n);
            due.is("count(0)", desk.count(0), n);
        }
    }

    private static void sizeOutOfRange(Due due) {
        due.says("Promise 20", "The rack has n numbers (0 to 600)", "REFUSED out of range");
        CourierDesk desk = Desks.withRack(4, 5);
        for (int n : new int[] {-1, 601, 602, MIN, MAX}) {
            due.is("size(" + n + ")", desk.size(n), Due.REFUSED);
            Desks.rackIs(due, "size(" + n + ")", desk, 4, 5);
        }
    }

    private static void sizeCuts(Due due) {
        due.says("Promise 20", "cut");
        CourierDesk desk = Desks.withRack(4, 5, 6);
        due.is("size(3), as it is", desk.size(3), 3);
        Desks.rackIs(due, "size(3)", desk, 4, 5, 6);
        due.is("size(2)", desk.size(2), 2);
        Desks.rackIs(due, "size(2)", desk, 4, 5);
        due.is("size(0)", desk.size(0), 0);
        due.is("get(0)", desk.get(0), Due.APART);
    }

    private static void sizeBringsZeros(Due due) {
        due.says("Promise 20", "or with 0s behind: n.");
        CourierDesk desk = Desks.withRack(4, 5, 6);
        desk.size(1);
        due.is("size(4), where other numbers were", desk.size(4), 4);
        Desks.rackIs(due, "size(4)", desk, 4, 0, 0, 0);
        due.is("size(600)", desk.size(600), 600);
        due.is("tell(2, 0)", desk.tell(2, 0), 599);
        due.is("get(599)", desk.get(599), 0);
        desk.turn(2, 8);
        desk.size(0);
        desk.size(600);
        due.is("tell(2, 0), where all were 8", desk.tell(2, 0), 600);
    }
}
