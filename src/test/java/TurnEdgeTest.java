/** The boundary cases that promises 21, 22 and 24 name: turn, swap and replace. */
final class TurnEdgeTest {
    private static final int MIN = Integer.MIN_VALUE;
    private static final int MAX = Integer.MAX_VALUE;

    public static void main(String[] args) {
        Due due = new Due();
        turnedRound(due);
        placesOn(due);
        byOfAnySign(due);
        placesOnOfNoneAndAll(due);
        allBecome(due);
        thePileComesBehind(due);
        anEmptyPileComesBehind(due);
        refusedForAnotherOp(due);
        fullOnlyForThePile(due);
        swapped(due);
        swapOutOfRange(due);
        replaced(due);
        replacedBySame(due);
        nothingReplaced(due);
        due.finish();
    }

    private static void turnedRound(Due due) {
        due.says("Promise 21", "The rack, op 0: is turned round");
        due.is("turn(0, 5) of none", new CourierDesk().turn(0, 5), 0);
        int[][] racks = {{1}, {1, 2}, {1, 2, 3}, {1, 2, 3, 4}};
        for (int[] rack : racks) {
            CourierDesk desk = Desks.withRack(rack);
            int[] want = new int[rack.length];
            for (int i = 0; i < rack.length; i++) {
                want[rack.length - 1 - i] = rack[i];
            }
            due.is("turn(0, 5) of " + rack.length, desk.turn(0, 5), rack.length);
            Desks.rackIs(due, "turn(0, 5) of " + rack.length, desk, want);
        }
        CourierDesk full = new CourierDesk();
        full.size(600);
        full.set(0, 1);
        full.set(598, 2);
        due.is("turn(0, 0) of 600", full.turn(0, 0), 600);
        due.is("get(599)", full.get(599), 1);
        due.is("get(1)", full.get(1), 2);
    }

    private static void placesOn(Due due) {
        due.says("Promise 21", "1: each number goes by places on, the last ones to the front");
        CourierDesk desk = Desks.withRack(1, 2, 3, 4, 5, 6);
        desk.size(5);
        due.is("turn(1, 1)", desk.turn(1, 1), 5);
        Desks.rackIs(due, "turn(1, 1)", desk, 5, 1, 2, 3, 4);
        due.is("turn(1, 2)", desk.turn(1, 2), 5);
        Desks.rackIs(due, "turn(1, 2)", desk, 3, 4, 5, 1, 2);
        due.is("turn(1, 4)", desk.turn(1, 4), 5);
        Desks.rackIs(due, "turn(1, 4)", desk, 4, 5, 1, 2, 3);
    }

    private static void byOfAnySign(Due due) {
        due.says("Promise 21", "(by of any sign, modulo how many it has)");
        int[] bys = {0, 3, -3, 6, 300, -300};
        for (int by : bys) {
            turnsOn(due, by, 1, 2, 3);
        }
        turnsOn(due, 4, 3, 1, 2);
        turnsOn(due, 5, 2, 3, 1);
        turnsOn(due, -1, 2, 3, 1);
        turnsOn(due, -2, 3, 1, 2);
        turnsOn(due, -4, 2, 3, 1);
        turnsOn(due, MAX, 3, 1, 2);
        turnsOn(due, MIN, 3, 1, 2);
        turnsOn(due, MIN + 1, 2, 3, 1);
    }

    /** MAX and MIN are both 1 more than a multiple of 3. */
    private static void turnsOn(Due due, int by, int first, int second, int third) {
        CourierDesk desk = Desks.withRack(1, 2, 3);
        due.is("turn(1, " + by + ")", desk.turn(1, by), 3);
        Desks.rackIs(due, "turn(1, " + by + ")", desk, first, second, third);
    }

    private static void placesOnOfNoneAndAll(Due due) {
        due.says("Promise 21", "modulo how many it has", "none, one, 600");
        for (int by : new int[] {0, 1, -1, MIN, MAX}) {
            due.is("turn(1, " + by + ") of none", new CourierDesk().turn(1, by), 0);
            CourierDesk one = Desks.withRack(9);
            due.is("turn(1, " + by + ") of one", one.turn(1, by), 1);
            due.is("get(0)", one.get(0), 9);
        }
        CourierDesk full = new CourierDesk();
        full.size(600);
        full.set(599, 1);
        due.is("turn(1, 1) of 600", full.turn(1, 1), 600);
        due.is("get(0)", full.get(0), 1);
        due.is("turn(1, -601) of 600", full.turn(1, -601), 600);
        due.is("get(599)", full.get(599), 1);
    }

    private static void allBecome(Due due) {
        due.says("Promise 21", "2: all become by");
        due.is("turn(2, 5) of none", new CourierDesk().turn(2, 5), 0);
        CourierDesk desk = Desks.withRack(1, 2, 3);
        due.is("turn(2, MIN)", desk.turn(2, MIN), 3);
        Desks.rackIs(due, "turn(2, MIN)", desk, MIN, MIN, MIN);
        desk.size(600);
        due.is("turn(2, -1) of 600", desk.turn(2, -1), 600);
        due.is("tell(2, -1)", desk.tell(2, -1), 600);
    }

    private static void thePileComesBehind(Due due) {
        due.says("Promise 21", "3: all of the pile, its top last, come behind (the pile stays): how many it has");
        CourierDesk desk = Desks.withRack(1, 2, 3);
        desk.size(2);
        Desks.pushAll(desk, 7, 8, 9, 10);
        desk.pop(false);
        due.is("turn(3, 0)", desk.turn(3, 0), 5);
        Desks.rackIs(due, "turn(3, 0)", desk, 1, 2, 7, 8, 9);
        due.is("turn(3, 0) again", desk.turn(3, 0), 8);
        Desks.rackIs(due, "turn(3, 0) again", desk, 1, 2, 7, 8, 9, 7, 8, 9);
        due.is("count(1)", desk.count(1), 3);
        due.is("pop(false)", desk.pop(false), 9);
        due.is("pop(false)", desk.pop(false), 8);
        due.is("pop(false)", desk.pop(false), 7);
    }

    private static void anEmptyPileComesBehind(Due due) {
        due.says("Promise 21", "all of the pile, its top last, come behind", "an empty pile, and an empty rack");
        due.is("turn(3, 0) of none", new CourierDesk().turn(3, 0), 0);
        CourierDesk rack = Desks.withRack(1, 2);
        due.is("turn(3, 0) of an empty pile", rack.turn(3, 0), 2);
        Desks.rackIs(due, "turn(3, 0) of an empty pile", rack, 1, 2);
        CourierDesk pile = new CourierDesk();
        Desks.pushAll(pile, 4, 5);
        due.is("turn(3, 0) to an empty rack", pile.turn(3, 0), 2);
        Desks.rackIs(due, "turn(3, 0) to an empty rack", pile, 4, 5);
    }

    private static void refusedForAnotherOp(Due due) {
        due.says("Promise 21", "REFUSED for another op");
        CourierDesk desk = Desks.withRack(1, 2, 3);
        desk.push(4);
        for (int op : new int[] {-1, 4, 5, MIN, MAX}) {
            due.is("turn(" + op + ", 1)", desk.turn(op, 1), Due.REFUSED);
            Desks.rackIs(due, "turn(" + op + ", 1)", desk, 1, 2, 3);
        }
        due.is("turn(4, 0) of none", new CourierDesk().turn(4, 0), Due.REFUSED);
    }

    private static void fullOnlyForThePile(Due due) {
        due.says("Promise 21", "FULL (3).");
        CourierDesk desk = new CourierDesk();
        Desks.pushAll(desk, 7, 8);
        desk.size(598);
        due.is("turn(3, 0) to 600", desk.turn(3, 0), 600);
        due.is("get(598)", desk.get(598), 7);
        due.is("get(599)", desk.get(599), 8);
        due.is("turn(3, 0) with 600", desk.turn(3, 0), Due.FULL);
        desk.size(599);
        due.is("turn(3, 0) to 601", desk.turn(3, 0), Due.FULL);
        due.is("count(0)", desk.count(0), 599);
        due.is("get(598)", desk.get(598), 7);
        due.is("count(1)", desk.count(1), 2);
        desk.size(600);
        due.is("turn(0, 0) with 600", desk.turn(0, 0), 600);
        due.is("turn(1, 1) with 600", desk.turn(1, 1), 600);
        due.is("turn(2, 1) with 600", desk.turn(2, 1), 600);
        due.is("turn(4, 1) with 600", desk.turn(4, 1), Due.REFUSED);
        desk.pop(false);
        desk.pop(false);
        due.is("turn(3, 0) of an empty pile with 600", desk.turn(3, 0), 600);
    }

    private static void swapped(Due due) {
        due.says("Promise 22", "Two places of the rack change their numbers: 0.");
        CourierDesk desk = Desks.withRack(MIN, 2, MAX);
        due.is("swap(0, 2), first and last", desk.swap(0, 2), 0);
        Desks.rackIs(due, "swap(0, 2)", desk, MAX, 2, MIN);
        due.is("swap(2, 1)", desk.swap(2, 1), 0);
        Desks.rackIs(due, "swap(2, 1)", desk, MAX, MIN, 2);
        due.is("swap(1, 1), one place", desk.swap(1, 1), 0);
        Desks.rackIs(due, "swap(1, 1)", desk, MAX, MIN, 2);
    }

    private static void swapOutOfRange(Due due) {
        due.says("Promise 22", "Two places of the rack change their numbers", "REFUSED out of range");
        CourierDesk desk = Desks.withRack(1, 2, 3);
        desk.size(2);
        for (int place : new int[] {2, 3, -1, 600, MIN, MAX}) {
            due.is("swap(0, " + place + ")", desk.swap(0, place), Due.REFUSED);
            due.is("swap(" + place + ", 1)", desk.swap(place, 1), Due.REFUSED);
            due.is("swap twice " + place, desk.swap(place, place), Due.REFUSED);
        }
        Desks.rackIs(due, "refused", desk, 1, 2);
        due.is("swap(0, 0) of none", new CourierDesk().swap(0, 0), Due.REFUSED);
    }

    private static void replaced(Due due) {
        due.says("Promise 24", "All of a number in the rack become another one: how many there were.");
        CourierDesk desk = Desks.withRack(5, 1, 5, 5, 5);
        desk.size(4);
        due.is("replace(5, MIN), the first and the last too", desk.replace(5, MIN), 3);
        Desks.rackIs(due, "replace(5, MIN)", desk, MIN, 1, MIN, MIN);
        due.is("replace(MIN, 1)", desk.replace(MIN, 1), 3);
        due.is("replace(1, 2), those that were 1 and those that became it", desk.replace(1, 2), 4);
        desk.size(600);
        due.is("replace(0, 2) of 600", desk.replace(0, 2), 596);
        due.is("replace(2, 3) of 600", desk.replace(2, 3), 600);
        due.is("get(599)", desk.get(599), 3);
    }

    private static void replacedBySame(Due due) {
        due.says("Promise 24",
                "All of a number in the rack become another one: how many there were.", "the same number");
        CourierDesk desk = Desks.withRack(5, 1, 5);
        due.is("replace(5, 5)", desk.replace(5, 5), 2);
        Desks.rackIs(due, "replace(5, 5)", desk, 5, 1, 5);
        due.is("replace(6, 6)", desk.replace(6, 6), 0);
    }

    private static void nothingReplaced(Due due) {
        due.says("Promise 24", "All of a number in the rack become another one: how many there were.", "none");
        due.is("replace(0, 1) of none", new CourierDesk().replace(0, 1), 0);
        CourierDesk desk = Desks.withRack(5, 1, 6);
        desk.push(7);
        desk.size(2);
        due.is("replace(6, 9), which went", desk.replace(6, 9), 0);
        due.is("replace(7, 9), which only the pile has", desk.replace(7, 9), 0);
        due.is("replace(8, 9)", desk.replace(8, 9), 0);
        Desks.rackIs(due, "replace", desk, 5, 1);
        due.is("pop(true)", desk.pop(true), 7);
    }
}
