import java.nio.charset.StandardCharsets;
import java.util.Base64;

/** Promises 4 and 5: write and read, against the library's own Base64. */
final class SignsTest {
    public static void main(String[] args) {
        Due due = new Due();
        writeAtEveryLength(due);
        writeUsesEverySign(due);
        readTakesWhatWriteGave(due);
        readKnowsEachSignAndNoOther(due);
        readOfAllShortTexts(due);
        readOfChosenTexts(due);
        readAtTheLimit(due);
        due.finish();
    }

    private static byte[] sample(int length) {
        byte[] bytes = new byte[length];
        for (int i = 0; i < length; i++) {
            bytes[i] = (byte) (i * 83 + 251 + i / 3 * 5);
        }
        return bytes;
    }

    private static String encoded(byte[] bytes, boolean safe, boolean bare) {
        Base64.Encoder encoder = safe ? Base64.getUrlEncoder() : Base64.getEncoder();
        if (bare) {
            encoder = encoder.withoutPadding();
        }
        return new String(encoder.encode(bytes), StandardCharsets.ISO_8859_1);
    }

    private static void writeAtEveryLength(Due due) {
        for (int length : new int[] {0, 1, 2, 3, 4, 5, 6, 7, 100, 398, 399, 400}) {
            for (int way = 0; way < 4; way++) {
                compareWrite(due, sample(length), (way & 1) != 0, (way & 2) != 0);
            }
        }
    }

    private static void compareWrite(Due due, byte[] bytes, boolean safe, boolean bare) {
        String want = encoded(bytes, safe, bare);
        String call = bytes.length + " bytes, write(" + safe + ", " + bare + ")";
        String out = Desks.longOut(() -> {
            CourierDesk desk = new CourierDesk();
            Desks.lay(desk, bytes);
            due.is(call, desk.write(safe, bare), want.length());
            due.is("count(2) stays", desk.count(2), bytes.length);
            return desk;
        });
        due.same(call + ": OUT", out, want);
    }

    private static void writeUsesEverySign(Due due) {
        String plain = "ABCDEFGHIJKLMNOPQRSTUVWXYZabcdefghijklmnopqrstuvwxyz0123456789+/";
        CourierDesk desk = new CourierDesk();
        Desks.lay(desk, Base64.getDecoder().decode(plain));
        due.is("write(false, false)", desk.write(false, false), 64);
        Desks.outIs(due, "write(false, false)", desk, plain);
        due.is("write(true, false)", desk.write(true, false), 64);
        Desks.outIs(due, "write(true, false)", desk, plain.substring(0, 62) + "-_");
    }

    private static void readTakesWhatWriteGave(Due due) {
        for (int length : new int[] {0, 1, 2, 3, 4, 5, 6, 99, 298, 299, 300}) {
            byte[] bytes = sample(length);
            for (int way = 0; way < 4; way++) {
                boolean safe = (way & 1) != 0;
                CourierDesk desk = new CourierDesk();
                Desks.lay(desk, encoded(bytes, safe, (way & 2) != 0));
                String call = length + " bytes, read(" + safe + ")";
                due.is(call, desk.read(safe), length);
                Desks.outIs(due, call, desk, new String(bytes, StandardCharsets.ISO_8859_1));
            }
        }
    }

    private static void readKnowsEachSignAndNoOther(Due due) {
        for (int sign = 0; sign < 256; sign++) {
            byte[] text = {(byte) sign, 'A', 'A', 'A', 'B', (byte) sign};
            for (boolean safe : new boolean[] {false, true}) {
                compareRead(due, text, safe);
            }
        }
    }

    private static void readOfAllShortTexts(Due due) {
        char[] signs = {'A', 'z', '=', '+', '_', ' '};
        for (int length = 0; length <= 6; length++) {
            int texts = (int) Math.round(Math.pow(signs.length, length));
            for (int number = 0; number < texts; number++) {
                byte[] text = new byte[length];
                for (int i = 0, rest = number; i < length; i++, rest /= signs.length) {
                    text[i] = (byte) signs[rest % signs.length];
                }
                compareRead(due, text, number % 2 == 0);
            }
        }
    }

    private static void readOfChosenTexts(Due due) {
        String[] texts = {"", "A", "AA", "AAA", "AAAA", "AA=", "AA==", "AA===", "AAA=", "AAA==", "A=", "A==", "A===",
            "=", "==", "===", "====", "AAAA=", "AAAA==", "AAAA====", "AAAAA", "AAAAA===", "AAAAAA==", "AAAAAAA=",
            "AA==AA==", "AA=A", "A=AA", "=AAA", "AAA=AAAA", "AB", "//", "__", "ABC", "/////w==", "_____w", "AA A",
            "AAAA\n", "-_+/"};
        for (String text : texts) {
            for (boolean safe : new boolean[] {false, true}) {
                compareRead(due, text.getBytes(StandardCharsets.ISO_8859_1), safe);
            }
        }
        CourierDesk desk = new CourierDesk();
        Desks.lay(desk, "Zm9=");
        due.is("bits behind the last byte mean nothing", desk.read(false), 2);
        Desks.outIs(due, "Zm9=", desk, "fo");
        Desks.lay(desk, "Zn");
        due.is("bits behind the only byte mean nothing", desk.read(true), 1);
        Desks.outIs(due, "Zn", desk, "f");
    }

    private static void readAtTheLimit(Due due) {
        CourierDesk desk = new CourierDesk();
        String full = "/".repeat(400);
        Desks.lay(desk, full);
        due.is("400 signs", desk.read(false), 300);
        Desks.outIs(due, "400 signs", desk, "\u00ff".repeat(300));
        due.is("read(true) of them", desk.read(true), Due.REFUSED);
        due.is("refused, OUT stays", desk.octet(-1), 300);
        due.is("refused, its last byte stays", desk.octet(299), 255);
        Desks.lay(desk, full.substring(0, 397));
        due.is("397 signs", desk.read(false), Due.REFUSED);
        Desks.lay(desk, full.substring(0, 399) + "=");
        due.is("399 signs and =", desk.read(false), 299);
        Desks.lay(desk, full.substring(0, 398) + "==");
        due.is("398 signs and ==", desk.read(false), 298);
        Desks.lay(desk, full.substring(0, 397) + "===");
        due.is("397 signs and ===", desk.read(false), Due.REFUSED);
        due.is("OUT stays", desk.octet(-1), 298);
    }

    /** OUT holds something known before, so that a refused read that touches it is seen. */
    private static void compareRead(Due due, byte[] text, boolean safe) {
        CourierDesk desk = Desks.withTape("stay");
        desk.words(0, 0, 0, false);
        desk.word(0);
        Desks.lay(desk, text);
        String call = "read(" + safe + ") of \"" + new String(text, StandardCharsets.ISO_8859_1) + "\"";
        byte[] want = null;
        try {
            want = (safe ? Base64.getUrlDecoder() : Base64.getDecoder()).decode(text);
        } catch (IllegalArgumentException refused) {
            want = null;
        }
        due.is(call, desk.read(safe), want == null ? Due.REFUSED : want.length);
        Desks.outIs(due, call, desk, want == null ? "stay" : new String(want, StandardCharsets.ISO_8859_1));
    }
}
