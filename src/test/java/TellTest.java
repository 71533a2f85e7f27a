/** Promises 23, 25 and 26: tell, seek and count. */
final class TellTest {
    private static final int MIN = Integer.MIN_VALUE;
    private static final int MAX = Integer.MAX_VALUE;

    public static void main(String[] args) {
        Due due = new Due();
        greatestAndLeast(due);
        howOften(due);
        nothingInCommon(due);
        thePileInTheRack(due);
        thePileWithoutPlace(due);
        emptyRows(due);
        tellIsApart(due);
        seekInRisingOrder(due);
        seekInAnotherOrder(due);
        countTells(due);
        due.finish();
    }

    private static void greatestAndLeast(Due due) {
        CourierDesk desk = Desks.withRack(-5, 9, -7, 3, 99);
        desk.size(4);
        due.is("tell(0, 0)", desk.tell(0, 0), 9);
        due.is("tell(1, 0)", desk.tell(1, 0), -7);
        CourierDesk below = Desks.withRack(-5, -3);
        due.is("tell(0, 0)", below.tell(0, 0), -3);
        due.is("tell(1, 0)", Desks.withRack(4, 6).tell(1, 0), 4);
        due.is("tell(0, 0) of MIN", Desks.withRack(MIN).tell(0, 0), MIN);
        due.is("tell(1, 0) of MAX", Desks.withRack(MAX).tell(1, 0), MAX);
        for (int first : new int[] {-8, 8}) {
            CourierDesk edge = Desks.withRack(first, 0, -first);
            due.is("tell(0, 0), an edge", edge.tell(0, 0), 8);
            due.is("tell(1, 0), an edge", edge.tell(1, 0), -8);
        }
        CourierDesk wide = Desks.withRack(0, MIN, MAX, 1);
        due.is("tell(0, 0)", wide.tell(0, 0), MAX);
        due.is("tell(1, 0)", wide.tell(1, 0), MIN);
    }

    private static void howOften(Due due) {
        CourierDesk desk = Desks.withRack(4, 5, 4, 4, 4);
        desk.size(4);
        desk.push(4);
        due.is("tell(2, 4)", desk.tell(2, 4), 3);
        due.is("tell(2, 5)", desk.tell(2, 5), 1);
        due.is("tell(2, 6)", desk.tell(2, 6), 0);
    }

    private static void nothingInCommon(Due due) {
        CourierDesk desk = Desks.withRack(1, 2, 3, 9);
        due.is("tell(3, 0), an empty pile", desk.tell(3, 0), 1);
        Desks.pushAll(desk, 7, 8);
        due.is("tell(3, 0)", desk.tell(3, 0), 1);
        desk.push(3);
        due.is("tell(3, 0)", desk.tell(3, 0), 0);
        desk.pop(false);
        due.is("tell(3, 0), it went", desk.tell(3, 0), 1);
        desk.push(9);
        due.is("tell(3, 0)", desk.tell(3, 0), 0);
        desk.size(3);
        due.is("tell(3, 0), it went", desk.tell(3, 0), 1);
        CourierDesk fronts = Desks.withRack(1, 2, 3);
        Desks.pushAll(fronts, 1, 8);
        due.is("tell(3, 0), both fronts", fronts.tell(3, 0), 0);
    }

    private static void thePileInTheRack(Due due) {
        CourierDesk desk = Desks.withRack(1, 2, 1, 2, 1, 3, 1, 2);
        Desks.pushAll(desk, 1, 2);
        due.is("tell(4, 0)", desk.tell(4, 0), 0);
        due.is("tell(5, 0)", desk.tell(5, 0), 6);
        desk.push(1);
        due.is("tell(4, 0)", desk.tell(4, 0), 0);
        due.is("tell(5, 0)", desk.tell(5, 0), 2);
        desk.push(3);
        due.is("tell(4, 0)", desk.tell(4, 0), 2);
        due.is("tell(5, 0)", desk.tell(5, 0), 2);
        CourierDesk same = Desks.withRack(6, 7);
        Desks.pushAll(same, 6, 7);
        due.is("tell(4, 0) of the same rows", same.tell(4, 0), 0);
        due.is("tell(5, 0) of the same rows", same.tell(5, 0), 0);
    }

    private static void thePileWithoutPlace(Due due) {
        CourierDesk desk = Desks.withRack(1, 2, 3, 4);
        Desks.pushAll(desk, 2, 1);
        due.is("tell(4, 0)", desk.tell(4, 0), -1);
        due.is("tell(5, 0)", desk.tell(5, 0), -1);
        CourierDesk front = Desks.withRack(1, 2, 3, 4);
        Desks.pushAll(front, 9, 3, 4);
        due.is("tell(4, 0), another front", front.tell(4, 0), -1);
        due.is("tell(5, 0), another front", front.tell(5, 0), -1);
        CourierDesk cut = Desks.withRack(1, 2, 3);
        Desks.pushAll(cut, 2, 3);
        cut.size(2);
        due.is("tell(4, 0) behind the end", cut.tell(4, 0), -1);
        due.is("tell(5, 0) behind the end", cut.tell(5, 0), -1);
        CourierDesk longer = Desks.withRack(1, 2);
        Desks.pushAll(longer, 1, 2, 0);
        due.is("tell(4, 0) of a longer pile", longer.tell(4, 0), -1);
        due.is("tell(5, 0) of a longer pile", longer.tell(5, 0), -1);
    }

    private static void emptyRows(Due due) {
        CourierDesk desk = new CourierDesk();
        due.is("tell(0, 0) of none", desk.tell(0, 0), Due.APART);
        due.is("tell(1, 0) of none", desk.tell(1, 0), Due.APART);
        due.is("tell(2, 0) of none", desk.tell(2, 0), 0);
        due.is("tell(3, 0) of none", desk.tell(3, 0), 1);
        due.is("tell(4, 0) of none", desk.tell(4, 0), 0);
        due.is("tell(5, 0) of none", desk.tell(5, 0), 0);
        desk.push(1);
        due.is("tell(3, 0), an empty rack", desk.tell(3, 0), 1);
        due.is("tell(4, 0), an empty rack", desk.tell(4, 0), -1);
        due.is("tell(5, 0), an empty rack", desk.tell(5, 0), -1);
        CourierDesk rack = Desks.withRack(4, 4, 4);
        due.is("tell(4, 0), an empty pile", rack.tell(4, 0), 0);
        due.is("tell(5, 0), an empty pile", rack.tell(5, 0), 3);
    }

    private static void tellIsApart(Due due) {
        CourierDesk desk = Desks.withRack(1);
        for (int what : new int[] {-1, 6, 7, MIN, MAX}) {
            due.is("tell(" + what + ", 1)", desk.tell(what, 1), Due.APART);
        }
    }

    private static void seekInRisingOrder(Due due) {
        CourierDesk desk = Desks.withRack(-4, 0, 6, 9);
        int[] numbers = {-4, 0, 6, 9, -5, -1, 1, 7, 10, MIN, MAX};
        int[] want = {0, 1, 2, 3, -1, -2, -3, -4, -5, -1, -5};
        for (int i = 0; i < numbers.length; i++) {
            due.is("seek(" + numbers[i] + ")", desk.seek(numbers[i]), want[i]);
        }
        due.is("seek(3) of none", new CourierDesk().seek(3), -1);
        CourierDesk wide = Desks.withRack(MIN, MAX);
        due.is("seek(MIN)", wide.seek(MIN), 0);
        due.is("seek(MAX)", wide.seek(MAX), 1);
        due.is("seek(0)", wide.seek(0), -2);
        CourierDesk one = Desks.withRack(2, 5, 1);
        one.size(2);
        due.is("seek(5), the fall went", one.seek(5), 1);
        due.is("seek(6), the fall went", one.seek(6), -3);
    }

    private static void seekInAnotherOrder(Due due) {
        due.is("seek(1) of a fall", Desks.withRack(1, 3, 2).seek(1), -1000);
        due.is("seek(1) of equal ones", Desks.withRack(1, 2, 2).seek(1), -1000);
        due.is("seek(9) of equal ones", Desks.withRack(1, 1).seek(9), -1000);
        due.is("seek(9) of a fall at the front", Desks.withRack(2, 1, 3).seek(9), -1000);
        due.is("seek(0) of a wide fall", Desks.withRack(MAX, MIN).seek(0), -1000);
    }

    private static void countTells(Due due) {
        CourierDesk desk = Desks.withTape("a b c d e");
        desk.words(' ', ' ', ' ', false);
        Desks.pushAll(desk, 1, 1, 1);
        desk.size(2);
        due.is("count(0)", desk.count(0), 2);
        due.is("count(1)", desk.count(1), 3);
        due.is("count(2)", desk.count(2), 9);
        due.is("count(3)", desk.count(3), 5);
        for (int what : new int[] {-1, 4, MIN, MAX}) {
            due.is("count(" + what + ")", desk.count(what), Due.REFUSED);
        }
    }
}
