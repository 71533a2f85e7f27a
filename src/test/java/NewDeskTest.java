/** Promise 1: a new object. */
final class NewDeskTest {
    public static void main(String[] args) {
        Due due = new Due();
        due.is("REFUSED", CourierDesk.REFUSED, -1);
        due.is("FULL", CourierDesk.FULL, -3);
        countsAreNothing(due);
        nothingIsThere(due);
        objectsAreApart(due);
        due.finish();
    }

    private static void countsAreNothing(Due due) {
        CourierDesk desk = new CourierDesk();
        for (int what = 0; what < 4; what++) {
            due.is("count(" + what + ")", desk.count(what), 0);
        }
        due.is("octet(-1)", desk.octet(-1), 0);
        due.is("seed(7)", desk.seed(7), 0);
    }

    private static void nothingIsThere(Due due) {
        CourierDesk desk = new CourierDesk();
        due.is("octet(0)", desk.octet(0), Due.REFUSED);
        due.is("word(0)", desk.word(0), Due.REFUSED);
        due.is("pop(true)", desk.pop(true), Due.APART);
        due.is("pop(false)", desk.pop(false), Due.APART);
        due.is("search(0)", desk.search(0), Due.REFUSED);
        due.is("get(0)", desk.get(0), Due.APART);
        due.is("find(0, 0, false)", desk.find(0, 0, false), Due.REFUSED);
        due.is("find(0, 0, true)", desk.find(0, 0, true), Due.REFUSED);
        due.is("check(0, 0)", desk.check(0, 0), 0);
        due.is("seek(5)", desk.seek(5), -1);
    }

    private static void objectsAreApart(Due due) {
        CourierDesk one = Desks.withTape("a b");
        one.words(' ', ' ', ' ', false);
        one.word(0);
        one.push(3);
        one.insert(0, 4);
        one.seed(5);
        CourierDesk other = new CourierDesk();
        for (int what = 0; what < 4; what++) {
            due.is("another desk: count(" + what + ")", other.count(what), 0);
        }
        due.is("another desk: octet(-1)", other.octet(-1), 0);
        due.is("another desk: seed(0)", other.seed(0), 0);
    }
}
