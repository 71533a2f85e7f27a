/** Which parts of a desk each call may change, and that it leaves all others as they are. */
final class StaysTest {
    private interface Call {
        long on(CourierDesk desk);
    }

    private final Due due = new Due();

    public static void main(String[] args) {
        StaysTest test = new StaysTest();
        test.theTape();
        test.theWords();
        test.theOut();
        test.theLot();
        test.thePile();
        test.theRack();
        test.nothing();
        test.due.finish();
    }

    /** The letters of changed name the parts that the call changes: t w o l p r, as Parts has them. */
    private void changes(String changed, String name, Call call) {
        changesOf(Parts.busyDesk(), Parts.busyDesk(), changed, name, call);
    }

    /** As changes, where the TAPE of both desks is a message that can be read. */
    private void changesReadable(String changed, String name, Call call) {
        CourierDesk desk = Parts.busyDesk();
        CourierDesk twin = Parts.busyDesk();
        desk.end(4);
        twin.end(4);
        changesOf(desk, twin, changed, name, call);
    }

    private void changesOf(CourierDesk desk, CourierDesk twin, String changed, String name, Call call) {
        long answer = call.on(desk);
        due.holds(name + " answered " + answer + ", neither FULL nor APART",
                answer != Due.FULL && answer != Due.APART);
        Parts.of(desk).compareBut(due, name, Parts.of(twin), changed);
    }

    private void theTape() {
        due.says("Terms", "(they stay but by feed and end)");
        changes("t", "feed(1, 2, 3, 4, 5)", desk -> desk.feed(1, 2, 3, 4, 5));
        changes("t", "end(4)", desk -> desk.end(4));
        changes("t", "end(0)", desk -> desk.end(0));
        changes("", "end(9), all of it", desk -> desk.end(9));
        changes("o", "write(false, false)", desk -> desk.write(false, false));
        changesReadable("o", "read(false)", desk -> desk.read(false));
        changes("", "check(0, 9)", desk -> desk.check(0, 9));
        changes("w", "words(32, 32, 32, true)", desk -> desk.words(32, 32, 32, true));
        changes("o", "word(0)", desk -> desk.word(0));
    }

    private void theWords() {
        due.says("Promise 7", "The TAPE is cut into WORDS");
        changes("w", "words(32, 32, 32, false)", desk -> desk.words(32, 32, 32, false));
        changes("w", "words(32, 32, 32, true)", desk -> desk.words(32, 32, 32, true));
        due.says("Promise 8", "(Words stay as they were cut, whatever the TAPE has then");
        changes("t", "end(0)", desk -> desk.end(0));
        changes("t", "feed of other words", desk -> desk.feed(0x61206220, 0x63206420, 1, 2, 3));
    }

    private void theOut() {
        due.says("Promise 4", "OUT becomes the TAPE in 64 signs");
        changes("o", "write(false, false)", desk -> desk.write(false, false));
        changes("o", "write(true, true)", desk -> desk.write(true, true));
        due.says("Promise 5", "OUT becomes the bytes that the TAPE means");
        changesReadable("o", "read(false)", desk -> desk.read(false));
        changesReadable("o", "read(true)", desk -> desk.read(true));
        due.says("Promise 8", "OUT becomes word k");
        changes("o", "word(0)", desk -> desk.word(0));
        changes("o", "word(7)", desk -> desk.word(7));
        changes("", "word(5), the same again", desk -> desk.word(5));
    }

    private void theLot() {
        due.says("Promise 10", "THE LOT becomes v.");
        changes("l", "seed(5)", desk -> desk.seed(5));
        due.says("Promise 11", "THE LOT gets -7046029254386353131 more");
        changes("l", "draw()", desk -> desk.draw());
    }

    private void thePile() {
        due.says("Promise 12", "A number comes to the pile's top");
        changes("p", "push(5)", desk -> desk.push(5));
        due.says("Promise 13", "(or, if stays, is only told)");
        changes("p", "pop(false)", desk -> desk.pop(false));
        changes("", "pop(true)", desk -> desk.pop(true));
    }

    private void theRack() {
        due.says("Promises 15 to 17, 20, 22 and 24", "in the rack");
        changes("r", "insert(0, 7)", desk -> desk.insert(0, 7));
        changes("r", "remove(2)", desk -> desk.remove(2));
        changes("r", "set(4, 7)", desk -> desk.set(4, 7));
        changes("r", "size(4)", desk -> desk.size(4));
        changes("r", "size(6)", desk -> desk.size(6));
        changes("", "size(5), as it is", desk -> desk.size(5));
        changes("r", "swap(0, 1)", desk -> desk.swap(0, 1));
        changes("", "swap(1, 3), equal numbers", desk -> desk.swap(1, 3));
        changes("", "swap(2, 2)", desk -> desk.swap(2, 2));
        changes("r", "replace(-1, 7)", desk -> desk.replace(-1, 7));
        changes("", "replace(-1, -1)", desk -> desk.replace(-1, -1));
        changes("", "replace(7, 8), which only the pile has", desk -> desk.replace(7, 8));
        due.says("Promise 21", "(the pile stays)");
        changes("r", "turn(0, 7)", desk -> desk.turn(0, 7));
        changes("r", "turn(1, 1)", desk -> desk.turn(1, 1));
        changes("", "turn(1, 5)", desk -> desk.turn(1, 5));
        changes("r", "turn(2, 7)", desk -> desk.turn(2, 7));
        changes("r", "turn(3, 7)", desk -> desk.turn(3, 7));
    }

    private void nothing() {
        due.says("Not promised", "the answers and state changes described above", "calls that only tell");
        changes("", "check(0, 9)", desk -> desk.check(0, 9));
        changes("", "octet(-1)", desk -> desk.octet(-1));
        changes("", "octet(1)", desk -> desk.octet(1));
        changes("", "search(7)", desk -> desk.search(7));
        changes("", "get(4)", desk -> desk.get(4));
        changes("", "find(-1, 0, false)", desk -> desk.find(-1, 0, false));
        changes("", "find(-1, 4, true)", desk -> desk.find(-1, 4, true));
        for (int what = 0; what < 6; what++) {
            int asked = what;
            changes("", "tell(" + what + ", -1)", desk -> desk.tell(asked, -1));
        }
        changes("", "seek(3)", desk -> desk.seek(3));
        for (int what = 0; what < 4; what++) {
            int asked = what;
            changes("", "count(" + what + ")", desk -> desk.count(asked));
        }
    }
}
