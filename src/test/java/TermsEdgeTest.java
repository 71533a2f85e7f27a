import java.util.SplittableRandom;

/** The boundary cases that the document's first lines, its face, its terms and promise 1 name. */
final class TermsEdgeTest {
    public static void main(String[] args) {
        Due due = new Due();
        theLastOfAllCalls(due);
        theConstants(due);
        noTapeAtFirst(due);
        aFullTape(due);
        noOutAtFirst(due);
        theEndsOfTheSigns(due);
        theSafeSigns(due);
        wholeGroups(due);
        twoBytesLeft(due);
        oneByteLeft(due);
        bitsThatLack(due);
        upToFour(due);
        checkOfNone(due);
        checkIsWithoutSign(due);
        aFullRackAndPile(due);
        emptyAtFirst(due);
        placesFromZero(due);
        theTopIsTheLast(due);
        theLotAtFirst(due);
        theStateOfTheTerms(due);
        due.finish();
    }

    private static void theLastOfAllCalls(Due due) {
        due.says("What it is", "An object is used for at most 512 calls after it has been made");
        CourierDesk pushed = new CourierDesk();
        CourierDesk inserted = new CourierDesk();
        CourierDesk drawn = new CourierDesk();
        CourierDesk cut = new CourierDesk();
        SplittableRandom library = new SplittableRandom(0);
        for (int call = 1; call <= 512; call++) {
            due.is("push, call " + call, pushed.push(-call), call);
            due.is("insert, call " + call, inserted.insert(0, call), call);
            due.is("draw, call " + call, drawn.draw(), library.nextLong());
            if (call % 2 == 0) {
                due.is("end, call " + call, cut.end(call / 2 % 20), call / 2 % 20);
            } else {
                due.is("feed, call " + call, cut.feed(call, 1, 2, 3, 4), call / 2 % 20 + 20);
            }
        }
    }

    private static void theConstants(Due due) {
        due.says("The public face", "REFUSED = -1, FULL = -3");
        due.is("REFUSED", CourierDesk.REFUSED, -1);
        due.is("FULL", CourierDesk.FULL, -3);
    }

    private static void noTapeAtFirst(Due due) {
        due.says("Terms", "THE TAPE has bytes, none at first");
        CourierDesk desk = new CourierDesk();
        due.is("count(2)", desk.count(2), 0);
        due.is("check(0, 1)", desk.check(0, 1), Due.APART);
        due.is("end(1)", desk.end(1), Due.REFUSED);
        due.is("write(false, false)", desk.write(false, false), 0);
        due.is("words(1, 2, 3, true)", desk.words(1, 2, 3, true), 0);
    }

    private static void aFullTape(Due due) {
        due.says("Terms", "at most 400");
        CourierDesk desk = new CourierDesk();
        for (int n = 20; n <= 400; n += 20) {
            due.is("feed to " + n, desk.feed(n, -n, n, -n, n), n);
        }
        due.is("count(2)", desk.count(2), 400);
        due.is("feed beyond", desk.feed(1, 1, 1, 1, 1), Due.FULL);
        due.is("count(2)", desk.count(2), 400);
    }

    private static void noOutAtFirst(Due due) {
        due.says("Terms", "OUT has bytes, none at first.");
        CourierDesk desk = new CourierDesk();
        due.is("octet(-1)", desk.octet(-1), 0);
        due.is("octet(0)", desk.octet(0), Due.REFUSED);
    }

    /** Four signs of the values 0, 25, 26, 51, and four of 52, 61, 62, 63. */
    private static final String ENDS = "\u0001\u0096\u00b3\u00d3\u00df\u00bf";

    private static void theEndsOfTheSigns(Due due) {
        due.says("Terms", "SIGNS 64: A to Z, a to z, 0 to 9, + and /");
        CourierDesk desk = Desks.withTape(ENDS);
        due.is("write(false, false)", desk.write(false, false), 8);
        Desks.outIs(due, "write(false, false)", desk, "AZaz09+/");
        Desks.lay(desk, "AZaz09+/");
        due.is("read(false)", desk.read(false), 6);
        Desks.outIs(due, "read(false)", desk, ENDS);
        for (char beside : "@[`{:*,.-_".toCharArray()) {
            Desks.lay(desk, "AAA" + beside);
            due.is("read(false) of AAA" + beside, desk.read(false), Due.REFUSED);
        }
    }

    private static void theSafeSigns(Due due) {
        due.says("Terms", "(SAFE ones: - and _ in the place of + and /)");
        CourierDesk desk = Desks.withTape(ENDS);
        due.is("write(true, false)", desk.write(true, false), 8);
        Desks.outIs(due, "write(true, false)", desk, "AZaz09-_");
        Desks.lay(desk, "AZaz09-_");
        due.is("read(true)", desk.read(true), 6);
        Desks.outIs(due, "read(true)", desk, ENDS);
        for (char beside : "@[`{:,.^+/".toCharArray()) {
            Desks.lay(desk, "AAA" + beside);
            due.is("read(true) of AAA" + beside, desk.read(true), Due.REFUSED);
        }
    }

    private static void written(Due due, String text, String want) {
        CourierDesk desk = Desks.withTape(text);
        due.is("write(false, false) of " + text, desk.write(false, false), want.length());
        Desks.outIs(due, "write(false, false) of " + text, desk, want);
    }

    private static void wholeGroups(Due due) {
        due.says("Terms", "A message is written in them three bytes by four signs, 6 bits each, the highest first");
        written(due, "Man", "TWFu");
        written(due, "ManMan", "TWFuTWFu");
        written(due, "\u00ff\0\0", "/wAA");
        written(due, "\0\u00ff\0", "AP8A");
        written(due, "\0\0\u00ff", "AAD/");
    }

    private static void twoBytesLeft(Due due) {
        due.says("Terms", "of two bytes left three signs");
        written(due, "Ma", "TWE=");
        written(due, "ManMa", "TWFuTWE=");
        due.is("write(false, true)", Desks.withTape("Ma").write(false, true), 3);
    }

    private static void oneByteLeft(Due due) {
        due.says("Terms", "of one two");
        written(due, "M", "TQ==");
        written(due, "ManM", "TWFuTQ==");
        due.is("write(false, true)", Desks.withTape("M").write(false, true), 2);
    }

    private static void bitsThatLack(Due due) {
        due.says("Terms", "(bits that lack are 0)");
        written(due, "\u00ff", "/w==");
        written(due, "\u00ff\u00ff", "//8=");
        for (int length = 1; length < 3; length++) {
            CourierDesk cut = Desks.withTape("\u00ff\u00ff\u00ff");
            cut.end(length);
            cut.write(false, true);
            Desks.outIs(due, length + " bytes of a longer TAPE", cut, length == 1 ? "/w" : "//8");
        }
    }

    private static void upToFour(Due due) {
        due.says("Terms", "with = behind up to four.");
        written(due, "", "");
        written(due, "\0", "AA==");
        written(due, "\0\0", "AAA=");
        written(due, "\0\0\0", "AAAA");
        written(due, "\0\0\0\0", "AAAAAA==");
    }

    private static void checkOfNone(Due due) {
        due.says("Terms", "v = 2^32 - 1; for each byte, the first one first");
        due.is("check of no byte", new CourierDesk().check(0, 0), 0);
        due.is("check of a 0", Desks.withTape("\0").check(0, 1), 0x527D5351L);
        due.is("check of a 255", Desks.withTape("\u00ff").check(0, 1), 0xFF000000L);
        due.is("check of a, b", Desks.withTape("ab").check(0, 2), 0xE2A22936L);
        due.holds("b, a is another one", Desks.withTape("ba").check(0, 2) != 0xE2A22936L);
    }

    private static void checkIsWithoutSign(Due due) {
        due.says("Terms", "v without sign halved (rounded down), and, if it was odd, but one of it with 2197175160;"
                + " in the end 2^32 - 1 less v.");
        due.is("check of 123456789", Desks.withTape("123456789").check(0, 9), 3808858755L);
        due.is("check of 32 times 0", Desks.withTape("\0".repeat(32)).check(0, 32), 0x8A9136AAL);
        due.is("check of 32 times 255", Desks.withTape("\u00ff".repeat(32)).check(0, 32), 0x62A8AB43L);
        due.is("check of 128", Desks.withTape("\u0080").check(0, 1), 0xD08B6829L);
    }

    private static void aFullRackAndPile(Due due) {
        due.says("Terms", "each at most 600");
        CourierDesk rack = new CourierDesk();
        due.is("size(601)", rack.size(601), Due.REFUSED);
        due.is("size(600)", rack.size(600), 600);
        due.is("insert(0, 1)", rack.insert(0, 1), Due.FULL);
        due.is("push(1)", rack.push(1), 1);
        due.is("turn(3, 0)", rack.turn(3, 0), Due.FULL);
        due.is("count(0)", rack.count(0), 600);
    }

    private static void emptyAtFirst(Due due) {
        due.says("Terms", "empty at first");
        CourierDesk desk = new CourierDesk();
        due.is("count(0)", desk.count(0), 0);
        due.is("count(1)", desk.count(1), 0);
        due.is("get(0)", desk.get(0), Due.APART);
        due.is("pop(true)", desk.pop(true), Due.APART);
    }

    private static void placesFromZero(Due due) {
        due.says("Terms", "places from 0");
        CourierDesk desk = Desks.withRack(5, 6, 7);
        due.is("get(0)", desk.get(0), 5);
        due.is("get(2)", desk.get(2), 7);
        due.is("get(3)", desk.get(3), Due.APART);
        due.is("get(-1)", desk.get(-1), Due.APART);
        due.is("find(5, 0, false)", desk.find(5, 0, false), 0);
        due.is("seek(5)", desk.seek(5), 0);
        desk.push(5);
        due.is("tell(4, 0)", desk.tell(4, 0), 0);
    }

    private static void theTopIsTheLast(Due due) {
        due.says("Terms", "whose last is its TOP");
        CourierDesk desk = new CourierDesk();
        Desks.pushAll(desk, 4, 5, 6);
        due.is("pop(true)", desk.pop(true), 6);
        desk.turn(3, 0);
        due.is("get(2)", desk.get(2), 6);
    }

    private static void theLotAtFirst(Due due) {
        due.says("Terms", "THE LOT, a long, 0 at first.");
        due.is("seed(3)", new CourierDesk().seed(3), 0);
        CourierDesk seeded = new CourierDesk();
        seeded.seed(0);
        due.is("draw()", new CourierDesk().draw(), seeded.draw());
        seeded.seed(Long.MIN_VALUE);
        due.is("seed(0)", seeded.seed(0), Long.MIN_VALUE);
    }

    private static void theStateOfTheTerms(Due due) {
        due.says("Promise 1", "makes an object in the state that the terms give");
        Parts.of(new CourierDesk()).compare(due, "a new object", new Parts("", "", "", "0", "", ""));
        CourierDesk used = Parts.busyDesk();
        used.feed(1, 2, 3, 4, 5);
        Parts.of(new CourierDesk()).compare(due, "another new object", new Parts("", "", "", "0", "", ""));
    }
}
