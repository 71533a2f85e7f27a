import java.nio.charset.StandardCharsets;
import java.util.function.Supplier;
import java.util.zip.CRC32C;

/** Brings a desk into a state, and looks at the state it has. */
final class Desks {
    private static final long[] CHECKS = checksOfSingleBytes();
    private static final int ASKED_OF_ONE = 400;

    private Desks() {
    }

    static CourierDesk withTape(String text) {
        CourierDesk desk = new CourierDesk();
        lay(desk, text);
        return desk;
    }

    static void lay(CourierDesk desk, String text) {
        lay(desk, text.getBytes(StandardCharsets.ISO_8859_1));
    }

    /** The TAPE becomes these bytes. */
    static void lay(CourierDesk desk, byte[] bytes) {
        desk.end(0);
        for (int at = 0; at < bytes.length; at += 20) {
            desk.feed(four(bytes, at), four(bytes, at + 4), four(bytes, at + 8),
                    four(bytes, at + 12), four(bytes, at + 16));
        }
        desk.end(bytes.length);
    }

    private static int four(byte[] bytes, int at) {
        int all = 0;
        for (int i = at; i < at + 4; i++) {
            all = all << 8 | (i < bytes.length ? bytes[i] & 255 : 0);
        }
        return all;
    }

    static CourierDesk withRack(int... numbers) {
        CourierDesk desk = new CourierDesk();
        for (int i = 0; i < numbers.length; i++) {
            desk.insert(i, numbers[i]);
        }
        return desk;
    }

    static void pushAll(CourierDesk desk, int... numbers) {
        for (int number : numbers) {
            desk.push(number);
        }
    }

    static String out(CourierDesk desk) {
        return outPart(desk, 0, desk.octet(-1));
    }

    private static String outPart(CourierDesk desk, int from, int to) {
        StringBuilder text = new StringBuilder();
        for (int i = from; i < to; i++) {
            text.append((char) desk.octet(i));
        }
        return text.toString();
    }

    /** A long OUT, told by several equal desks, because one is good for 512 calls only. */
    static String longOut(Supplier<CourierDesk> equalDesks) {
        StringBuilder text = new StringBuilder();
        int length = equalDesks.get().octet(-1);
        for (int from = 0; from < length; from += ASKED_OF_ONE) {
            text.append(outPart(equalDesks.get(), from, Math.min(length, from + ASKED_OF_ONE)));
        }
        return text.toString();
    }

    static void rackIs(Due due, String after, CourierDesk desk, int... numbers) {
        due.is(after + ": count(0)", desk.count(0), numbers.length);
        for (int i = 0; i < numbers.length; i++) {
            due.is(after + ": get(" + i + ")", desk.get(i), numbers[i]);
        }
    }

    static void outIs(Due due, String after, CourierDesk desk, String want) {
        due.same(after + ": OUT", out(desk), want);
    }

    static void tapeIs(Due due, String after, CourierDesk desk, String want) {
        due.same(after + ": the TAPE", tape(desk), want);
    }

    /** Each byte is known by its CHECK, so that nothing is changed by looking. */
    static String tape(CourierDesk desk) {
        StringBuilder text = new StringBuilder();
        int length = desk.count(2);
        for (int i = 0; i < length; i++) {
            text.append(byteOf(desk.check(i, i + 1)));
        }
        return text.toString();
    }

    private static char byteOf(long check) {
        for (char one = 0; one < 256; one++) {
            if (CHECKS[one] == check) {
                return one;
            }
        }
        return '\uffff';
    }

    private static long[] checksOfSingleBytes() {
        long[] checks = new long[256];
        for (int one = 0; one < checks.length; one++) {
            checks[one] = libraryCheck(Character.toString(one));
        }
        return checks;
    }

    static long libraryCheck(String text) {
        CRC32C check = new CRC32C();
        check.update(text.getBytes(StandardCharsets.ISO_8859_1));
        return check.getValue();
    }

    /** The pile comes behind the rack and is told from there; the rack is then as it was. */
    static void pileIs(Due due, String after, CourierDesk desk, int... numbers) {
        due.is(after + ": count(1)", desk.count(1), numbers.length);
        int before = desk.count(0);
        desk.turn(3, 0);
        for (int i = 0; i < numbers.length; i++) {
            due.is(after + ": number " + i + " of the pile", desk.get(before + i), numbers[i]);
        }
        desk.size(before);
    }
}
