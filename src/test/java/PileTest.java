/** Promises 12, 13 and 14: push, pop and search. */
final class PileTest {
    public static void main(String[] args) {
        Due due = new Due();
        pushCounts(due);
        pushUpToTheLastCall(due);
        popTakesTheTop(due);
        searchCountsFromTheTop(due);
        due.finish();
    }

    private static void pushCounts(Due due) {
        CourierDesk desk = new CourierDesk();
        due.is("push(MIN)", desk.push(Integer.MIN_VALUE), 1);
        due.is("push(-1)", desk.push(-1), 2);
        due.is("push(MAX)", desk.push(Integer.MAX_VALUE), 3);
        due.is("count(1)", desk.count(1), 3);
        due.is("the rack stays", desk.count(0), 0);
    }

    /** An object is good for 512 calls: the pile is never full in them. */
    private static void pushUpToTheLastCall(Due due) {
        CourierDesk desk = new CourierDesk();
        for (int n = 1; n <= 510; n++) {
            due.is("push to " + n, desk.push(n), n);
        }
        due.is("count(1)", desk.count(1), 510);
        due.is("pop(true)", desk.pop(true), 510);
    }

    private static void popTakesTheTop(Due due) {
        CourierDesk desk = new CourierDesk();
        Desks.pushAll(desk, 5, Integer.MIN_VALUE, -1);
        due.is("pop(true)", desk.pop(true), -1);
        due.is("count(1)", desk.count(1), 3);
        due.is("pop(false)", desk.pop(false), -1);
        due.is("count(1)", desk.count(1), 2);
        due.is("pop(false)", desk.pop(false), Integer.MIN_VALUE);
        due.is("push(9)", desk.push(9), 2);
        due.is("pop(false)", desk.pop(false), 9);
        due.is("pop(false)", desk.pop(false), 5);
        due.is("pop(true)", desk.pop(true), Due.APART);
        due.is("pop(false)", desk.pop(false), Due.APART);
        due.is("count(1)", desk.count(1), 0);
    }

    private static void searchCountsFromTheTop(Due due) {
        CourierDesk desk = new CourierDesk();
        Desks.pushAll(desk, 4, 7, 4, 9);
        due.is("search(9)", desk.search(9), 1);
        due.is("search(4)", desk.search(4), 2);
        due.is("search(7)", desk.search(7), 3);
        due.is("search(5)", desk.search(5), Due.REFUSED);
        desk.pop(false);
        due.is("search(9), which went", desk.search(9), Due.REFUSED);
        due.is("search(4)", desk.search(4), 1);
        desk.pop(false);
        due.is("search(4)", desk.search(4), 2);
        due.is("count(1)", desk.count(1), 2);
    }
}
