/** Promises 12, 13 and 14: push, pop and search. */
final class PileTest {
    public static void main(String[] args) {
        Due due = new Due();
        pushCounts(due);
        pushIsFullWith600(due);
        popTakesTheTop(due);
        searchCountsFromTheTop(due);
        due.finish();
    }

    private static void pushCounts(Due due) {
        CourierDesk desk = new CourierDesk();
        due.is("push(MIN)", desk.push(Integer.MIN_VALUE), 1);
        due.is("push(-1)", desk.push(-1), 2);
        due.is("push(MAX)", desk.push(Integer.MAX_VALUE), 3);
        due.is("count(1)", desk.count(1), 3);
        due.is("the rack stays", desk.count(0), 0);
    }

    /** Takes more than 512 calls, so the document leaves the answers free; the limit is tested all the same. */
    private static void pushIsFullWith600(Due due) {
        CourierDesk desk = new CourierDesk();
        for (int n = 1; n <= 600; n++) {
            due.is("push to " + n, desk.push(n), n);
        }
        due.is("push beyond 600", desk.push(7), Due.FULL);
        due.is("count(1)", desk.count(1), 600);
        due.is("pop(true)", desk.pop(true), 600);
    }

    private static void popTakesTheTop(Due due) {
        CourierDesk desk = new CourierDesk();
        Desks.pushAll(desk, 5, Integer.MIN_VALUE, -1);
        due.is("pop(true)", desk.pop(true), -1);
        due.is("count(1)", desk.count(1), 3);
        due.is("pop(false)", desk.pop(false), -1);
        due.is("count(1)", desk.count(1), 2);
        due.is("pop(false)", desk.pop(false), Integer.MIN_VALUE);
        due.is("push(9)", desk.push(9), 2);
        due.is("pop(false)", desk.pop(false), 9);
        due.is("pop(false)", desk.pop(false), 5);
        due.is("pop(true)", desk.pop(true), Due.APART);
        due.is("pop(false)", desk.pop(false), Due.APART);
        due.is("count(1)", desk.count(1), 0);
    }

    private static void searchCountsFromTheTop(Due due) {
        CourierDesk desk = new CourierDesk();
        Desks.pushAll(desk, 4, 7, 4, 9);
        due.is("search(9)", desk.search(9), 1);
        due.is("search(4)", desk.search(4), 2);
        due.is("search(7)", desk.search(7), 3);
        due.is("search(5)", desk.search(5), Due.REFUSED);
        desk.pop(false);
        due.is("search(9), which went", desk.search(9), Due.REFUSED);
        due.is("search(4)", desk.search(4), 1);
        desk.pop(false);
        due.is("search(4)", desk.search(4), 2);
        due.is("count(1)", desk.count(1), 2);
    }
}
