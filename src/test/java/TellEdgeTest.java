/** The boundary cases that promises 23, 25 and 26 name: tell, seek and count. */
final class TellEdgeTest {
    private static final int MIN = Integer.MIN_VALUE;
    private static final int MAX = Integer.MAX_VALUE;

    public static void main(String[] args) {
        Due due = new Due();
        greatest(due);
        least(due);
        howOften(due);
        nothingInCommon(due);
        firstPlaceOfThePile(due);
        withoutPlace(due);
        lastPlaceOfThePile(due);
        theFirstPushedFirst(due);
        ofAnEmptyPile(due);
        apartForAnotherWhat(due);
        apartIfEmpty(due);
        soughtAndFound(due);
        soughtAndNotThere(due);
        notInRisingOrder(due);
        notAllDifferent(due);
        anEmptyRackRises(due);
        beforeTheFirstGreaterOne(due);
        counts(due);
        countRefused(due);
        due.finish();
    }

    private static void greatest(Due due) {
        due.says("Promise 23", "what 0: its greatest number");
        due.is("tell(0, 0) of MIN", Desks.withRack(MIN).tell(0, 0), MIN);
        due.is("tell(0, 0) of numbers below 0", Desks.withRack(-5, -3, -4).tell(0, 0), -3);
        due.is("tell(0, 0), the first", Desks.withRack(MAX, 0, MIN).tell(0, 0), MAX);
        due.is("tell(0, 0), the last", Desks.withRack(MIN, 0, MAX).tell(0, 0), MAX);
        CourierDesk cut = Desks.withRack(3, 4, 5);
        cut.size(2);
        due.is("tell(0, 0), the greatest went", cut.tell(0, 0), 4);
    }

    private static void least(Due due) {
        due.says("Promise 23", "1: its least");
        due.is("tell(1, 0) of MAX", Desks.withRack(MAX).tell(1, 0), MAX);
        due.is("tell(1, 0) of numbers above 0", Desks.withRack(5, 3, 4).tell(1, 0), 3);
        due.is("tell(1, 0), the first", Desks.withRack(MIN, 0, MAX).tell(1, 0), MIN);
        due.is("tell(1, 0), the last", Desks.withRack(MAX, 0, MIN).tell(1, 0), MIN);
        CourierDesk cut = Desks.withRack(5, 4, 3);
        cut.size(2);
        due.is("tell(1, 0), the least went", cut.tell(1, 0), 4);
    }

    private static void howOften(Due due) {
        due.says("Promise 23", "2: how often by is in it");
        due.is("tell(2, 0) of none", new CourierDesk().tell(2, 0), 0);
        CourierDesk desk = Desks.withRack(4, 5, 4, 4);
        desk.size(3);
        desk.push(4);
        due.is("tell(2, 4)", desk.tell(2, 4), 2);
        due.is("tell(2, 5)", desk.tell(2, 5), 1);
        due.is("tell(2, 6)", desk.tell(2, 6), 0);
        desk.size(600);
        due.is("tell(2, 0) of 600", desk.tell(2, 0), 597);
    }

    private static void nothingInCommon(Due due) {
        due.says("Promise 23", "3: 1 if it and the pile have no number in common, else 0");
        due.is("tell(3, 0) of none", new CourierDesk().tell(3, 0), 1);
        due.is("tell(3, 0) of an empty pile", Desks.withRack(0).tell(3, 0), 1);
        CourierDesk pile = new CourierDesk();
        pile.push(0);
        due.is("tell(3, 0) of an empty rack", pile.tell(3, 0), 1);
        CourierDesk desk = Desks.withRack(1, 2, 3);
        Desks.pushAll(desk, 4, 5);
        due.is("tell(3, 0)", desk.tell(3, 0), 1);
        for (int common : new int[] {1, 2, 3}) {
            desk.push(common);
            due.is("tell(3, 0), the top in common", desk.tell(3, 0), 0);
            desk.push(6);
            due.is("tell(3, 0), one below the top", desk.tell(3, 0), 0);
            desk.pop(false);
            desk.pop(false);
            due.is("tell(3, 0), it went", desk.tell(3, 0), 1);
        }
        CourierDesk lowest = Desks.withRack(7, 8, 9);
        Desks.pushAll(lowest, 9, 1, 2);
        due.is("tell(3, 0), the lowest in common", lowest.tell(3, 0), 0);
        lowest.size(2);
        due.is("tell(3, 0), the rack's went", lowest.tell(3, 0), 1);
    }

    private static void firstPlaceOfThePile(Due due) {
        due.says("Promise 23", "4: the first place from which on it has all of the pile's numbers in their row");
        CourierDesk desk = Desks.withRack(1, 1, 2, 1, 1, 2);
        Desks.pushAll(desk, 1, 2);
        due.is("tell(4, 0), behind a false start", desk.tell(4, 0), 1);
        CourierDesk whole = Desks.withRack(1, 2, 3);
        Desks.pushAll(whole, 1, 2, 3);
        due.is("tell(4, 0) of the whole rack", whole.tell(4, 0), 0);
        CourierDesk atEnd = Desks.withRack(1, 2, 3);
        Desks.pushAll(atEnd, 2, 3);
        due.is("tell(4, 0), at the end", atEnd.tell(4, 0), 1);
    }

    private static void withoutPlace(Due due) {
        due.says("Promise 23", "-1 without");
        CourierDesk split = Desks.withRack(1, 3, 2);
        Desks.pushAll(split, 1, 2);
        CourierDesk longer = Desks.withRack(1, 2);
        Desks.pushAll(longer, 1, 2, 0);
        CourierDesk beyond = Desks.withRack(1, 2, 3);
        beyond.size(2);
        Desks.pushAll(beyond, 2, 3);
        CourierDesk empty = new CourierDesk();
        empty.push(0);
        CourierDesk[] desks = {split, longer, beyond, empty};
        String[] names = {"split", "a longer pile", "beyond the end", "an empty rack"};
        for (int i = 0; i < desks.length; i++) {
            due.is("tell(4, 0), " + names[i], desks[i].tell(4, 0), -1);
            due.is("tell(5, 0), " + names[i], desks[i].tell(5, 0), -1);
        }
    }

    private static void lastPlaceOfThePile(Due due) {
        due.says("Promise 23", "5: the last such one");
        CourierDesk desk = Desks.withRack(1, 2, 1, 2, 1);
        Desks.pushAll(desk, 1, 2);
        due.is("tell(5, 0)", desk.tell(5, 0), 2);
        due.is("tell(4, 0)", desk.tell(4, 0), 0);
        desk.push(1);
        due.is("tell(5, 0), overlapping, at the end", desk.tell(5, 0), 2);
        CourierDesk atFront = Desks.withRack(1, 2, 3);
        Desks.pushAll(atFront, 1, 2);
        due.is("tell(5, 0), only at the front", atFront.tell(5, 0), 0);
    }

    private static void theFirstPushedFirst(Due due) {
        due.says("Promise 23", "(the first pushed first");
        CourierDesk desk = Desks.withRack(2, 1, 3, 1, 2);
        Desks.pushAll(desk, 1, 2);
        due.is("tell(4, 0)", desk.tell(4, 0), 3);
        due.is("tell(5, 0)", desk.tell(5, 0), 3);
        desk.pop(false);
        desk.push(3);
        due.is("tell(4, 0)", desk.tell(4, 0), 1);
        due.is("tell(5, 0)", desk.tell(5, 0), 1);
    }

    private static void ofAnEmptyPile(Due due) {
        due.says("Promise 23", "of an empty pile 0, and how many the rack has)");
        due.is("tell(4, 0) of none", new CourierDesk().tell(4, 0), 0);
        due.is("tell(5, 0) of none", new CourierDesk().tell(5, 0), 0);
        CourierDesk desk = Desks.withRack(4, 5, 6);
        due.is("tell(4, 0)", desk.tell(4, 0), 0);
        due.is("tell(5, 0)", desk.tell(5, 0), 3);
        desk.push(9);
        desk.pop(false);
        desk.size(600);
        due.is("tell(4, 0) of 600", desk.tell(4, 0), 0);
        due.is("tell(5, 0) of 600", desk.tell(5, 0), 600);
    }

    private static void apartForAnotherWhat(Due due) {
        due.says("Promise 23", "APART for another what");
        CourierDesk desk = Desks.withRack(1, 2);
        desk.push(2);
        for (int what : new int[] {-1, 6, 7, MIN, MAX}) {
            due.is("tell(" + what + ", 1)", desk.tell(what, 1), Due.APART);
            due.is("tell(" + what + ", 1) of none", new CourierDesk().tell(what, 1), Due.APART);
        }
    }

    private static void apartIfEmpty(Due due) {
        due.says("Promise 23", "or (0, 1) if it is empty.");
        CourierDesk desk = new CourierDesk();
        due.is("tell(0, 0) of a new one", desk.tell(0, 0), Due.APART);
        due.is("tell(1, 0) of a new one", desk.tell(1, 0), Due.APART);
        desk.push(4);
        desk.insert(0, 5);
        desk.remove(0);
        due.is("tell(0, 0) of an emptied one", desk.tell(0, 0), Due.APART);
        due.is("tell(1, 0) of an emptied one", desk.tell(1, 0), Due.APART);
        due.is("tell(2, 5) of an emptied one", desk.tell(2, 5), 0);
        due.is("tell(3, 0) of an emptied one", desk.tell(3, 0), 1);
    }

    private static void soughtAndFound(Due due) {
        due.says("Promise 25", "if its numbers are in rising order, all different: its place");
        CourierDesk desk = Desks.withRack(MIN, -1, 0, 1, MAX);
        int[] numbers = {MIN, -1, 0, 1, MAX};
        for (int place = 0; place < numbers.length; place++) {
            due.is("seek(" + numbers[place] + ")", desk.seek(numbers[place]), place);
        }
        due.is("seek(5) of one", Desks.withRack(5).seek(5), 0);
        due.is("seek(MAX), the widest rise", Desks.withRack(MIN, MAX).seek(MAX), 1);
    }

    private static void soughtAndNotThere(Due due) {
        due.says("Promise 25", "if it is not there -1 less the place where it would be put");
        CourierDesk desk = Desks.withRack(-4, 0, 6);
        int[] numbers = {MIN, -5, -3, -1, 1, 5, 7, MAX};
        int[] want = {-1, -1, -2, -2, -3, -3, -4, -4};
        for (int i = 0; i < numbers.length; i++) {
            due.is("seek(" + numbers[i] + ")", desk.seek(numbers[i]), want[i]);
        }
        CourierDesk cut = Desks.withRack(1, 2, 3);
        cut.size(2);
        due.is("seek(3), which went", cut.seek(3), -3);
    }

    private static void notInRisingOrder(Due due) {
        due.says("Promise 25", "-1000 if they are not.");
        due.is("a fall at the front", Desks.withRack(2, 1, 3).seek(3), -1000);
        due.is("a fall at the end", Desks.withRack(1, 3, 2).seek(1), -1000);
        due.is("the widest fall", Desks.withRack(MAX, MIN).seek(MAX), -1000);
        due.is("a falling row", Desks.withRack(3, 2, 1).seek(2), -1000);
        due.is("a number that is not there", Desks.withRack(3, 1).seek(9), -1000);
        CourierDesk cut = Desks.withRack(1, 3, 2);
        cut.size(2);
        due.is("the fall went", cut.seek(3), 1);
    }

    private static void notAllDifferent(Due due) {
        due.says("Promise 25", "in rising order, all different");
        due.is("two equal ones", Desks.withRack(1, 1).seek(1), -1000);
        due.is("equal ones at the end", Desks.withRack(1, 2, 2).seek(1), -1000);
        due.is("equal ones at the front", Desks.withRack(2, 2, 3).seek(3), -1000);
        CourierDesk zeros = new CourierDesk();
        zeros.size(2);
        due.is("two 0s", zeros.seek(0), -1000);
        zeros.size(1);
        due.is("one 0", zeros.seek(0), 0);
    }

    private static void anEmptyRackRises(Due due) {
        due.says("Promise 25", "(An empty rack is");
        for (int number : new int[] {0, 1, -1, MIN, MAX}) {
            due.is("seek(" + number + ") of none", new CourierDesk().seek(number), -1);
        }
        CourierDesk emptied = Desks.withRack(2, 1);
        emptied.size(0);
        due.is("seek(2) of an emptied one", emptied.seek(2), -1);
    }

    private static void beforeTheFirstGreaterOne(Due due) {
        due.says("Promise 25", "it would be put before the first greater one.)");
        CourierDesk desk = Desks.withRack(10, 20, 30);
        due.is("seek(9), before the first", desk.seek(9), -1);
        due.is("seek(11)", desk.seek(11), -2);
        due.is("seek(29)", desk.seek(29), -3);
        due.is("seek(31), behind the last", desk.seek(31), -4);
        CourierDesk longest = new CourierDesk();
        for (int i = 0; i < 300; i++) {
            longest.insert(i, i - 600);
        }
        for (int i = 0; i < 200; i++) {
            longest.insert(300 + i, i);
        }
        due.is("seek(-1) of 500", longest.seek(-1), -301);
        due.is("seek(200) of 500", longest.seek(200), -501);
        due.is("seek(199) of 500", longest.seek(199), 499);
    }

    private static void counts(Due due) {
        due.says("Promise 26", "What 0: numbers in the rack, 1: in the pile, 2: bytes on the TAPE, 3: latest words.");
        for (int what = 0; what < 4; what++) {
            due.is("count(" + what + ") of a new one", new CourierDesk().count(what), 0);
        }
        CourierDesk desk = Desks.withTape("ab cd e f");
        due.is("count(3) before words", desk.count(3), 0);
        desk.words(' ', ' ', ' ', false);
        Desks.pushAll(desk, 1, 2, 3);
        desk.size(2);
        int[] want = {2, 3, 9, 4};
        for (int what = 0; what < 4; what++) {
            due.is("count(" + what + ")", desk.count(what), want[what]);
        }
        desk.words(' ', ' ', ' ', true);
        due.is("count(3), kept", desk.count(3), 7);
        desk.words('b', ' ', 'f', false);
        due.is("count(3), the latest", desk.count(3), 3);
        desk.end(0);
        due.is("count(2)", desk.count(2), 0);
        due.is("count(3), of an emptied TAPE", desk.count(3), 3);
        Desks.lay(desk, "x".repeat(400));
        desk.words('x', 'x', 'x', true);
        desk.size(600);
        due.is("count(0), full", desk.count(0), 600);
        due.is("count(2), full", desk.count(2), 400);
        due.is("count(3), full", desk.count(3), 400);
    }

    private static void countRefused(Due due) {
        due.says("Promise 26", "REFUSED for others.");
        for (int what : new int[] {-1, 4, 5, MIN, MAX}) {
            due.is("count(" + what + ")", new CourierDesk().count(what), Due.REFUSED);
        }
    }
}
