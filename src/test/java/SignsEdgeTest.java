import java.nio.charset.StandardCharsets;

/** The boundary cases that promises 4 and 5 name: write and read. */
final class SignsEdgeTest {
    private static final String ALL_SIGNS = "ABCDEFGHIJKLMNOPQRSTUVWXYZabcdefghijklmnopqrstuvwxyz0123456789+/";
    private static final boolean[] BOTH = {false, true};

    public static void main(String[] args) {
        Due due = new Due();
        writeOfNone(due);
        writeOfTheLongest(due);
        writeBare(due);
        outBecomesShorter(due);
        readOfNone(due);
        readOfTheLongest(due);
        readSafeOrNot(due);
        mayLack(due);
        bitsBehindMeanNothing(due);
        anotherSign(due);
        aSingleSign(due);
        whereNoneMayBe(due);
        notEnough(due);
        allThatLackOrNone(due);
        outStays(due);
        due.finish();
    }

    private static void writeOfNone(Due due) {
        due.says("Promise 4", "OUT becomes the TAPE in 64 signs", "none of none");
        for (boolean safe : BOTH) {
            for (boolean bare : BOTH) {
                CourierDesk desk = Desks.withTape("abc");
                desk.write(false, false);
                desk.end(0);
                due.is("write(" + safe + ", " + bare + ")", desk.write(safe, bare), 0);
                due.is("octet(-1)", desk.octet(-1), 0);
                due.is("octet(0)", desk.octet(0), Due.REFUSED);
            }
        }
    }

    private static void longest(Due due, int length, boolean safe, boolean bare, String want) {
        String call = "write(" + safe + ", " + bare + ") of " + length;
        String out = Desks.longOut(() -> {
            CourierDesk desk = Desks.withTape("\u00ff".repeat(length));
            due.is(call, desk.write(safe, bare), want.length());
            return desk;
        });
        due.same(call + ": OUT", out, want);
    }

    private static void writeOfTheLongest(Due due) {
        due.says("Promise 4", "OUT becomes the TAPE in 64 signs", "400 bytes and few less");
        longest(due, 400, false, false, "/".repeat(533) + "w==");
        longest(due, 400, true, false, "_".repeat(533) + "w==");
        longest(due, 400, true, true, "_".repeat(533) + "w");
        longest(due, 399, false, false, "/".repeat(532));
        longest(due, 398, false, false, "/".repeat(530) + "8=");
        longest(due, 398, false, true, "/".repeat(530) + "8");
    }

    private static void writeBare(Due due) {
        due.says("Promise 4", "bare: with no = behind");
        String[] want = {"", "TQ", "TWE", "TWFu", "TWFuTQ", "TWFuTWE", "TWFuTWFu"};
        for (int length = 0; length < want.length; length++) {
            CourierDesk desk = Desks.withTape("ManMan".substring(0, length));
            due.is("write(false, true) of " + length, desk.write(false, true), want[length].length());
            Desks.outIs(due, "write(false, true) of " + length, desk, want[length]);
            due.is("write(true, true) of " + length, desk.write(true, true), want[length].length());
            int padded = (length + 2) / 3 * 4;
            due.is("write(false, false) of " + length, desk.write(false, false), padded);
        }
    }

    private static void outBecomesShorter(Due due) {
        due.says("Promise 4", "OUT becomes the TAPE in 64 signs", "nothing of the old OUT is left");
        CourierDesk desk = Desks.withTape("ManMan");
        desk.write(false, false);
        desk.end(1);
        due.is("write(false, true)", desk.write(false, true), 2);
        due.is("octet(-1)", desk.octet(-1), 2);
        due.is("octet(2)", desk.octet(2), Due.REFUSED);
        Desks.outIs(due, "write(false, true)", desk, "TQ");
    }

    /** OUT holds "stay" before, so that a refused read that touches it is seen. */
    private static CourierDesk before(String text) {
        CourierDesk desk = Desks.withTape("stay");
        desk.words(0, 0, 0, false);
        desk.word(0);
        Desks.lay(desk, text);
        return desk;
    }

    private static void reads(Due due, String text, boolean safe, String want) {
        CourierDesk desk = before(text);
        due.is("read(" + safe + ") of " + text, desk.read(safe), want.length());
        Desks.outIs(due, "read(" + safe + ") of " + text, desk, want);
    }

    private static void refuses(Due due, String text, boolean safe) {
        CourierDesk desk = before(text);
        due.is("read(" + safe + ") of " + text, desk.read(safe), Due.REFUSED);
        Desks.outIs(due, "read(" + safe + ") of " + text, desk, "stay");
    }

    private static void refusesBoth(Due due, String... texts) {
        for (String text : texts) {
            refuses(due, text, false);
            refuses(due, text, true);
        }
    }

    private static void readOfNone(Due due) {
        due.says("Promise 5", "OUT becomes the bytes that the TAPE means", "none of none");
        reads(due, "", false, "");
        reads(due, "", true, "");
        due.is("read(false) of a new one", new CourierDesk().read(false), 0);
    }

    private static void readOfTheLongest(Due due) {
        due.says("Promise 5", "OUT becomes the bytes that the TAPE means", "400 signs and few less");
        reads(due, "/".repeat(400), false, "\u00ff".repeat(300));
        reads(due, "_".repeat(400), true, "\u00ff".repeat(300));
        reads(due, "/".repeat(399), false, "\u00ff".repeat(299));
        reads(due, "/".repeat(399) + "=", false, "\u00ff".repeat(299));
        reads(due, "/".repeat(398), false, "\u00ff".repeat(298));
        reads(due, "/".repeat(398) + "==", false, "\u00ff".repeat(298));
        refuses(due, "/".repeat(397), false);
        refuses(due, "/".repeat(397) + "===", false);
    }

    private static void readSafeOrNot(Due due) {
        due.says("Promise 5", "in 64 signs (safe or not");
        reads(due, "+/+/", false, "\u00fb\u00ff\u00bf");
        reads(due, "-_-_", true, "\u00fb\u00ff\u00bf");
        refuses(due, "+AAA", true);
        refuses(due, "AA/A", true);
        refuses(due, "-AAA", false);
        refuses(due, "AA_A", false);
        refusesBoth(due, "+_AA", "-/AA");
    }

    private static void mayLack(Due due) {
        due.says("Promise 5", "= may lack if nothing else does");
        reads(due, "Zg", false, "f");
        reads(due, "Zm8", true, "fo");
        reads(due, "Zm9vYg", true, "foob");
        reads(due, "Zm9vYmE", false, "fooba");
        reads(due, "Zm9v", false, "foo");
        refusesBoth(due, "Z", "Zm9vY");
    }

    private static void bitsBehindMeanNothing(Due due) {
        due.says("Promise 5", "bits that would be behind the last byte mean nothing");
        for (char sign : "ghijklmnopqrstuv".toCharArray()) {
            reads(due, "Z" + sign, false, "f");
            reads(due, "Z" + sign + "==", true, "f");
        }
        for (char sign : "89+/".toCharArray()) {
            reads(due, "Zm" + sign, false, "fo");
            reads(due, "Zm" + sign + "=", false, "fo");
        }
        reads(due, "Zm_", true, "fo");
    }

    private static void anotherSign(Due due) {
        due.says("Promise 5", "REFUSED if it means none: another sign");
        for (char sign = 0; sign < 256; sign++) {
            boolean plain = ALL_SIGNS.indexOf(sign) >= 0;
            boolean known = plain || sign == '-' || sign == '_' || sign == '=';
            if (!known) {
                refusesBoth(due, sign + "AAA", "AAA" + sign, "AAAA" + sign, "AA" + sign, "AA" + sign + "=");
            }
        }
        refusesBoth(due, " ", "\n", "AA==\n", "AAAA\r\nAAAA", "AA\0", "AA=\0", "AA= ");
    }

    private static void aSingleSign(Due due) {
        due.says("Promise 5", "a single sign behind groups of four");
        refusesBoth(due, "A", "AAAAA", "AAAAAAAAA", "A=", "A==", "A===", "AAAAA=", "AAAAA==", "AAAAA===");
    }

    private static void whereNoneMayBe(Due due) {
        due.says("Promise 5", "= where none may be");
        refusesBoth(due, "=", "==", "===", "====", "=A", "=AAA", "A=AA", "AA=A", "AAAA=", "AAAA==", "AAAA===",
                "AAAA====", "AA==AA", "AA==AAAA", "AAA=A", "AAA=AAAA", "AA==AA==", "AA===", "AA====", "AAA==",
                "AAA===", "AA==A", "AAA==A");
    }

    private static void notEnough(Due due) {
        due.says("Promise 5", "or not enough.");
        refusesBoth(due, "AA=", "AAAAAA=", "AAAAAAAAAA=");
        refuses(due, "/".repeat(398) + "=", false);
    }

    private static void allThatLackOrNone(Due due) {
        due.says("Promise 5", "Behind the signs all = that lack stand, or none.");
        String[] bytes = {"", "", "f", "fo", "foo"};
        String[] signs = {"", "", "Zg", "Zm8", "Zm9v"};
        for (int length = 2; length <= 4; length++) {
            for (int behind = 0; behind <= 4; behind++) {
                String text = "Zm9v" + signs[length] + "=".repeat(behind);
                if (behind == 0 || length < 4 && behind == 4 - length) {
                    reads(due, text, false, "foo" + bytes[length]);
                } else {
                    refuses(due, text, false);
                }
            }
        }
    }

    private static void outStays(Due due) {
        due.says("Promise 5", "OUT stays where it is REFUSED.");
        CourierDesk desk = before("QUJDREVG");
        due.is("read(false)", desk.read(false), 6);
        for (String text : new String[] {"Zm9vA", "Zm9vYmFy=", "Zm9v Zg", "Zm9vZg="}) {
            Desks.lay(desk, text);
            due.is("read(false) of " + text, desk.read(false), Due.REFUSED);
            Desks.outIs(due, "read(false) of " + text, desk, "ABCDEF");
        }
        Desks.lay(desk, "Zg".getBytes(StandardCharsets.ISO_8859_1));
        due.is("read(false) of Zg", desk.read(false), 1);
        Desks.outIs(due, "read(false) of Zg", desk, "f");
    }
}
