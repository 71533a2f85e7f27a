import java.util.zip.CRC32C;

/** Promises 2, 3 and 6: feed, end and check. */
final class TapeTest {
    public static void main(String[] args) {
        Due due = new Due();
        feedBringsTheHighestByteFirst(due);
        feedIsFullBeyond400(due);
        endCuts(due);
        endRefuses(due);
        checkIsThatOfTheLibrary(due);
        checkIsApartForOtherPlaces(due);
        due.finish();
    }

    private static void feedBringsTheHighestByteFirst(Due due) {
        CourierDesk desk = new CourierDesk();
        due.is("feed", desk.feed(0x01020304, 0x80FF007F, -1, 0x41424344, 0x10203040), 20);
        due.is("count(2)", desk.count(2), 20);
        String want = "\u0001\u0002\u0003\u0004\u0080\u00ff\u0000\u007f\u00ff\u00ff\u00ff\u00ffABCD"
                + "\u0010\u0020\u0030\u0040";
        due.holds("the TAPE is as fed", Desks.tape(desk).equals(want));
        due.is("feed again", desk.feed(0x61626364, 0, 0, 0, 0x65666768), 40);
        due.holds("the TAPE goes on", Desks.tape(desk).startsWith(want + "abcd\0\0\0\0"));
        due.holds("the TAPE ends as fed", Desks.tape(desk).endsWith("\0\0\0\0efgh"));
    }

    private static void feedIsFullBeyond400(Due due) {
        CourierDesk desk = new CourierDesk();
        for (int n = 20; n <= 400; n += 20) {
            due.is("feed to " + n, desk.feed(n, n, n, n, n), n);
        }
        long before = desk.check(0, 400);
        due.is("feed beyond 400", desk.feed(1, 2, 3, 4, 5), Due.FULL);
        due.is("count(2)", desk.count(2), 400);
        due.is("check(0, 400)", desk.check(0, 400), before);
        due.is("end(381)", desk.end(381), 381);
        due.is("feed to 401", desk.feed(1, 2, 3, 4, 5), Due.FULL);
        due.is("count(2)", desk.count(2), 381);
        due.is("end(380)", desk.end(380), 380);
        due.is("feed to 400", desk.feed(1, 2, 3, 4, 5), 400);
    }

    private static void endCuts(Due due) {
        CourierDesk desk = Desks.withTape("abcdefghij");
        due.is("end(10)", desk.end(10), 10);
        due.is("end(4)", desk.end(4), 4);
        due.is("count(2)", desk.count(2), 4);
        due.holds("the TAPE has its first four", Desks.tape(desk).equals("abcd"));
        desk.feed(0x41424344, 0, 0, 0, 0);
        due.holds("what comes then stands behind", Desks.tape(desk).startsWith("abcdABCD\0"));
        due.is("end(0)", desk.end(0), 0);
        due.is("count(2)", desk.count(2), 0);
    }

    private static void endRefuses(Due due) {
        CourierDesk desk = Desks.withTape("abc");
        for (int n : new int[] {4, 20, 400, 401, -1, Integer.MIN_VALUE, Integer.MAX_VALUE}) {
            due.is("end(" + n + ")", desk.end(n), Due.REFUSED);
            due.is("count(2)", desk.count(2), 3);
        }
        due.holds("the TAPE stays", Desks.tape(desk).equals("abc"));
    }

    private static void checkIsThatOfTheLibrary(Due due) {
        byte[] bytes = new byte[400];
        for (int i = 0; i < bytes.length; i++) {
            bytes[i] = (byte) (i * 37 + i / 7);
        }
        CourierDesk desk = new CourierDesk();
        Desks.lay(desk, bytes);
        int[][] parts = {{0, 400}, {0, 1}, {399, 400}, {17, 230}, {5, 5}, {0, 0}, {400, 400}};
        for (int[] part : parts) {
            CRC32C due32 = new CRC32C();
            due32.update(bytes, part[0], part[1] - part[0]);
            due.is("check(" + part[0] + ", " + part[1] + ")", desk.check(part[0], part[1]), due32.getValue());
        }
        due.is("check of 123456789", Desks.withTape("123456789").check(0, 9), 3808858755L);
        due.is("count(2) stays", desk.count(2), 400);
        due.is("check leaves OUT", desk.octet(-1), 0);
    }

    private static void checkIsApartForOtherPlaces(Due due) {
        CourierDesk desk = Desks.withTape("abc");
        int[][] parts = {{-1, 2}, {2, 1}, {0, 4}, {4, 4}, {3, 2}, {-1, -1}, {0, -1},
            {Integer.MIN_VALUE, Integer.MAX_VALUE}, {Integer.MAX_VALUE, Integer.MIN_VALUE}, {0, 400}};
        for (int[] part : parts) {
            due.is("check(" + part[0] + ", " + part[1] + ")", desk.check(part[0], part[1]), Due.APART);
        }
        due.is("check(3, 3)", desk.check(3, 3), 0);
    }
}
