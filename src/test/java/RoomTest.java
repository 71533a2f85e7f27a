import com.sun.management.ThreadMXBean;
import java.lang.management.ManagementFactory;

/** All calls of a run live in one room: no call makes an object, so that only the constructor needs room. */
final class RoomTest {
    private static final int ROUNDS = 2000;
    /** The smallest object takes 16 bytes: a call that makes one in every round makes 32,000 bytes. */
    private static final long SMALL = 16000;

    public static void main(String[] args) {
        ThreadMXBean room = (ThreadMXBean) ManagementFactory.getThreadMXBean();
        CourierDesk[] desks = new CourierDesk[ROUNDS];
        for (int i = 0; i < ROUNDS; i++) {
            desks[i] = new CourierDesk();
        }
        everyCall(new CourierDesk());
        long thread = Thread.currentThread().getId();
        long before = room.getThreadAllocatedBytes(thread);
        long answers = 0;
        for (CourierDesk desk : desks) {
            answers += everyCall(desk);
        }
        long made = room.getThreadAllocatedBytes(thread) - before;
        Due due = new Due();
        due.holds("the bytes that are made can be told", before > 0);
        due.holds("no call makes an object, but " + made + " bytes were made", made < SMALL);
        due.holds("all desks answer alike", answers == ROUNDS * everyCall(new CourierDesk()));
        due.finish();
    }

    private static long everyCall(CourierDesk desk) {
        long sum = desk.feed(0x41414141, 0x20424220, 0x43430000, -1, 7);
        sum += desk.words(32, 0, 66, true) + desk.words(32, 0, 66, false) + desk.word(0) + desk.octet(0);
        sum += desk.check(0, 20) + desk.write(false, false) + desk.write(true, true) + desk.read(false);
        sum += desk.end(4) + desk.read(true);
        sum += desk.seed(5) + desk.draw();
        sum += desk.push(1) + desk.push(2) + desk.pop(true) + desk.pop(false) + desk.search(1);
        sum += desk.insert(0, 1) + desk.insert(1, 9) + desk.set(1, 4) + desk.get(1) + desk.find(4, 0, false);
        sum += desk.find(1, 1, true) + desk.size(300) + desk.swap(0, 200) + desk.replace(4, 6) + desk.seek(3);
        for (int op = 0; op < 4; op++) {
            sum += desk.turn(op, 5);
        }
        for (int what = 0; what < 6; what++) {
            sum += desk.tell(what, 5) + desk.count(what);
        }
        return sum + desk.remove(0) + desk.size(3) + desk.seek(3) + desk.get(-1) + desk.insert(9, 9);
    }
}
