/** Promises 21, 22 and 24: turn, swap and replace. */
final class TurnTest {
    public static void main(String[] args) {
        Due due = new Due();
        turnRound(due);
        turnBy(due);
        turnAllIntoOne(due);
        turnBringsThePile(due);
        turnRefuses(due);
        swapChangesTwo(due);
        replaceChangesAll(due);
        due.finish();
    }

    private static void turnRound(Due due) {
        CourierDesk desk = Desks.withRack(1, 2, 3, 4);
        desk.push(6);
        due.is("turn(0, 9)", desk.turn(0, 9), 4);
        Desks.rackIs(due, "turn(0, 9)", desk, 4, 3, 2, 1);
        desk.remove(0);
        due.is("turn(0, 0)", desk.turn(0, 0), 3);
        Desks.rackIs(due, "turn(0, 0)", desk, 1, 2, 3);
        due.is("turn(0, 0) of none", new CourierDesk().turn(0, 0), 0);
    }

    private static void turnBy(Due due) {
        int[] row = {10, 11, 12, 13, 14};
        int[] bys = {0, 1, 2, 4, 5, 6, -1, -4, -5, -6, 1000003, Integer.MIN_VALUE, Integer.MAX_VALUE};
        for (int by : bys) {
            int[] want = new int[row.length];
            for (int i = 0; i < row.length; i++) {
                want[Math.floorMod(i + (long) by, row.length)] = row[i];
            }
            CourierDesk desk = Desks.withRack(row);
            due.is("turn(1, " + by + ")", desk.turn(1, by), 5);
            Desks.rackIs(due, "turn(1, " + by + ")", desk, want);
            due.is("turn(1, " + by + ") of none", new CourierDesk().turn(1, by), 0);
        }
        CourierDesk desk = Desks.withRack(row);
        desk.turn(1, 2);
        Desks.rackIs(due, "turn(1, 2)", desk, 13, 14, 10, 11, 12);
    }

    private static void turnAllIntoOne(Due due) {
        CourierDesk desk = Desks.withRack(1, 2, 3, 4);
        desk.push(6);
        desk.size(3);
        due.is("turn(2, -8)", desk.turn(2, -8), 3);
        Desks.rackIs(due, "turn(2, -8)", desk, -8, -8, -8);
        due.is("turn(2, 5) of none", new CourierDesk().turn(2, 5), 0);
        desk.size(600);
        due.is("turn(2, 5) of 600", desk.turn(2, 5), 600);
        due.is("get(599)", desk.get(599), 5);
    }

    private static void turnBringsThePile(Due due) {
        CourierDesk desk = Desks.withRack(1, 2);
        due.is("turn(3, 0), an empty pile", desk.turn(3, 0), 2);
        Desks.pushAll(desk, 7, 8, 9);
        due.is("turn(3, 0)", desk.turn(3, 0), 5);
        Desks.rackIs(due, "turn(3, 0)", desk, 1, 2, 7, 8, 9);
        due.is("the pile stays", desk.count(1), 3);
        due.is("its top too", desk.pop(true), 9);
        desk.size(597);
        due.is("turn(3, 0) to 600", desk.turn(3, 0), 600);
        due.is("get(599)", desk.get(599), 9);
        due.is("turn(3, 0) beyond 600", desk.turn(3, 0), Due.FULL);
        desk.size(598);
        due.is("turn(3, 0) to 601", desk.turn(3, 0), Due.FULL);
        due.is("count(0)", desk.count(0), 598);
        due.is("get(597)", desk.get(597), 7);
        desk.size(600);
        for (int i = 0; i < 3; i++) {
            desk.pop(false);
        }
        due.is("turn(3, 0) of none to 600", desk.turn(3, 0), 600);
    }

    private static void turnRefuses(Due due) {
        CourierDesk desk = Desks.withRack(1, 2, 3);
        desk.push(4);
        for (int op : new int[] {-1, 4, 5, Integer.MIN_VALUE, Integer.MAX_VALUE}) {
            due.is("turn(" + op + ", 1)", desk.turn(op, 1), Due.REFUSED);
        }
        Desks.rackIs(due, "refused", desk, 1, 2, 3);
    }

    private static void swapChangesTwo(Due due) {
        CourierDesk desk = Desks.withRack(1, 2, 3, 4);
        desk.size(3);
        due.is("swap(0, 2)", desk.swap(0, 2), 0);
        Desks.rackIs(due, "swap(0, 2)", desk, 3, 2, 1);
        due.is("swap(1, 0)", desk.swap(1, 0), 0);
        Desks.rackIs(due, "swap(1, 0)", desk, 2, 3, 1);
        due.is("swap(1, 1)", desk.swap(1, 1), 0);
        for (int place : new int[] {3, -1, 600, Integer.MIN_VALUE, Integer.MAX_VALUE}) {
            due.is("swap(0, " + place + ")", desk.swap(0, place), Due.REFUSED);
            due.is("swap(" + place + ", 0)", desk.swap(place, 0), Due.REFUSED);
            due.is("swap twice " + place, desk.swap(place, place), Due.REFUSED);
        }
        Desks.rackIs(due, "refused", desk, 2, 3, 1);
        due.is("swap(0, 0) of none", new CourierDesk().swap(0, 0), Due.REFUSED);
    }

    private static void replaceChangesAll(Due due) {
        CourierDesk desk = Desks.withRack(5, 1, 5, 2, 5);
        due.is("replace(5, -6)", desk.replace(5, -6), 3);
        Desks.rackIs(due, "replace(5, -6)", desk, -6, 1, -6, 2, -6);
        due.is("replace(5, 1)", desk.replace(5, 1), 0);
        due.is("replace(-6, -6)", desk.replace(-6, -6), 3);
        due.is("replace(1, 2)", desk.replace(1, 2), 1);
        Desks.rackIs(due, "replace", desk, -6, 2, -6, 2, -6);
        desk.size(1);
        due.is("replace(-6, 4)", desk.replace(-6, 4), 1);
        desk.push(4);
        due.is("replace(4, 3)", desk.replace(4, 3), 1);
        due.is("the pile stays", desk.pop(true), 4);
        due.is("replace(0, 1) of none", new CourierDesk().replace(0, 1), 0);
    }
}
