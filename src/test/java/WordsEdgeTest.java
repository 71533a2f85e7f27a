/** The boundary cases that promises 7, 8 and 9 name: words, word and octet. */
final class WordsEdgeTest {
    private static final int MIN = Integer.MIN_VALUE;
    private static final int MAX = Integer.MAX_VALUE;

    public static void main(String[] args) {
        Due due = new Due();
        atEachOfTheSigns(due);
        theLeastAndGreatestSign(due);
        othersAreInWords(due);
        bytesBeyond127(due);
        theLongestPieces(due);
        noneIsEmpty(due);
        keptSigns(due);
        wordsOfNone(due);
        wordsOfTheLongest(due);
        refusedForOtherSigns(due);
        wordsFromZero(due);
        refusedIfThereIsNoWord(due);
        ofTheLatestWords(due);
        wordsStay(due);
        outStays(due);
        octets(due);
        howManyOctets(due);
        refusedIfThereIsNoOctet(due);
        due.finish();
    }

    private static void cut(Due due, String text, String signs, boolean kept, String... want) {
        CourierDesk desk = Desks.withTape(text);
        String call = "words of \"" + text + "\" at \"" + signs + "\", " + kept;
        due.is(call, desk.words(signs.charAt(0), signs.charAt(1), signs.charAt(2), kept), want.length);
        for (int k = 0; k < want.length; k++) {
            due.is(call + ": word(" + k + ")", desk.word(k), want[k].length());
            Desks.outIs(due, call + ": word(" + k + ")", desk, want[k]);
        }
        due.is(call + ": count(3)", desk.count(3), want.length);
    }

    private static void atEachOfTheSigns(Due due) {
        due.says("Promise 7", "The TAPE is cut into WORDS at each of the signs a, b, c");
        cut(due, "1a2b3c4", "abc", false, "1", "2", "3", "4");
        cut(due, "1a2b3c4", "aaa", false, "1", "2b3c4");
        cut(due, "1a2b3c4", "bbc", false, "1a2", "3", "4");
        cut(due, "1a2b3c4", "xyb", false, "1a2", "3c4");
        cut(due, "1a2b3c4", "xbx", false, "1a2", "3c4");
    }

    private static void theLeastAndGreatestSign(Due due) {
        due.says("Promise 7", "(0 to 127");
        cut(due, "x\0y\u007fz", "\0\u007f\0", false, "x", "y", "z");
        cut(due, "x\0y\u007fz", "\0\0\0", false, "x", "y\u007fz");
        cut(due, "x\0y\u007fz", "\u007f\u007f\u007f", false, "x\0y", "z");
        cut(due, "x\u0001y\u007ez", "\u0001\u007e\0", false, "x", "y", "z");
    }

    private static void othersAreInWords(Due due) {
        due.says("Promise 7", "others of its bytes are in words");
        cut(due, "\0\u0001\t\n\r ,;\u007f", "abc", false, "\0\u0001\t\n\r ,;\u007f");
        cut(due, "ABC", "abc", true, "ABC");
    }

    private static void bytesBeyond127(Due due) {
        due.says("Promise 7", "bytes beyond 127 are as they are, 0 to 255");
        cut(due, "\u0080\u00ff\u00ac", "\0,\u007f", false, "\u0080\u00ff\u00ac");
        cut(due, "\u0080,\u00ff", ",,,", true, "\u0080", ",", "\u00ff");
        CourierDesk desk = Desks.withTape("\u0080\u00ff");
        desk.words(0, 127, 0, true);
        desk.word(0);
        due.is("octet(0)", desk.octet(0), 128);
        due.is("octet(1)", desk.octet(1), 255);
    }

    private static void theLongestPieces(Due due) {
        due.says("Promise 7", "the longest pieces without one");
        cut(due, "aaaa bb  c", "   ", false, "aaaa", "bb", "c");
        cut(due, "all of one", "xyz", false, "all of one");
        cut(due, "all of one", "xyz", true, "all of one");
    }

    private static void noneIsEmpty(Due due) {
        due.says("Promise 7", "(none is empty)");
        cut(due, " a  b,, c,", " ,;", false, "a", "b", "c");
        cut(due, ",", ",,,", false);
        cut(due, ",;, ", ",; ", false);
        cut(due, ",,a", ",,,", true, ",", ",", "a");
        cut(due, "a,,", ",,,", true, "a", ",", ",");
    }

    private static void keptSigns(Due due) {
        due.says("Promise 7", "if kept, each of the signs is a word, too");
        cut(due, "a,b;c d", ",; ", true, "a", ",", "b", ";", "c", " ", "d");
        cut(due, ",,", ",,,", true, ",", ",");
        cut(due, ";a", ",;;", true, ";", "a");
        cut(due, "a\0", "\0\0\0", true, "a", "\0");
        cut(due, "a\u007f", "\u007f\0\0", true, "a", "\u007f");
    }

    private static void wordsOfNone(Due due) {
        due.says("Promise 7", "how many words there are", "none of an empty TAPE");
        cut(due, "", "abc", false);
        cut(due, "", "abc", true);
    }

    private static void wordsOfTheLongest(Due due) {
        due.says("Promise 7", "how many words there are", "400 bytes");
        CourierDesk desk = Desks.withTape(" x".repeat(200));
        due.is("words, kept", desk.words(' ', ' ', ' ', true), 400);
        due.is("word(399)", desk.word(399), 1);
        Desks.outIs(due, "word(399)", desk, "x");
        due.is("word(398)", desk.word(398), 1);
        Desks.outIs(due, "word(398)", desk, " ");
        due.is("word(400)", desk.word(400), Due.REFUSED);
        due.is("words, not kept", desk.words(' ', ' ', ' ', false), 200);
        due.is("word(199)", desk.word(199), 1);
        Desks.outIs(due, "word(199)", desk, "x");
        due.is("word(200)", desk.word(200), Due.REFUSED);
        due.is("one word", desk.words('y', 'y', 'y', true), 1);
        due.is("word(0)", desk.word(0), 400);
    }

    private static void refusedForOtherSigns(Due due) {
        due.says("Promise 7", "REFUSED for other signs.");
        for (int sign : new int[] {-1, -128, 128, 129, 255, 256, ' ' + 256, MIN, MAX}) {
            CourierDesk desk = Desks.withTape("a b c");
            desk.words(' ', ' ', ' ', false);
            desk.end(1);
            due.is("words(" + sign + ", 32, 32, false)", desk.words(sign, ' ', ' ', false), Due.REFUSED);
            due.is("words(32, " + sign + ", 32, true)", desk.words(' ', sign, ' ', true), Due.REFUSED);
            due.is("words(32, 32, " + sign + ", false)", desk.words(' ', ' ', sign, false), Due.REFUSED);
            due.is("count(3), the words stay", desk.count(3), 3);
            due.is("word(2), the words stay", desk.word(2), 1);
            Desks.outIs(due, "word(2), the words stay", desk, "c");
        }
    }

    private static void wordsFromZero(Due due) {
        due.says("Promise 8", "OUT becomes word k, from 0, of the latest words: how many bytes");
        CourierDesk desk = Desks.withTape("a bcd ef");
        desk.words(' ', ' ', ' ', false);
        due.is("word(1)", desk.word(1), 3);
        due.is("word(0)", desk.word(0), 1);
        due.is("octet(-1)", desk.octet(-1), 1);
        due.is("octet(1)", desk.octet(1), Due.REFUSED);
        due.is("word(2)", desk.word(2), 2);
        Desks.outIs(due, "word(2)", desk, "ef");
    }

    private static void refusedIfThereIsNoWord(Due due) {
        due.says("Promise 8", "REFUSED if there is none.");
        due.is("word(0) of a new one", new CourierDesk().word(0), Due.REFUSED);
        CourierDesk uncut = Desks.withTape("a b");
        due.is("word(0) before words", uncut.word(0), Due.REFUSED);
        uncut.words(' ', ' ', ' ', false);
        for (int k : new int[] {-1, -2, 2, 3, 399, 400, MIN, MAX}) {
            due.is("word(" + k + ")", uncut.word(k), Due.REFUSED);
        }
        uncut.end(0);
        uncut.words(' ', ' ', ' ', false);
        due.is("word(0) of no words", uncut.word(0), Due.REFUSED);
    }

    private static void ofTheLatestWords(Due due) {
        due.says("Promise 8", "of the latest words");
        CourierDesk desk = Desks.withTape("one two three");
        desk.words(' ', ' ', ' ', false);
        Desks.lay(desk, "x");
        desk.words(' ', ' ', ' ', false);
        due.is("word(0)", desk.word(0), 1);
        Desks.outIs(due, "word(0)", desk, "x");
        due.is("word(1), which went", desk.word(1), Due.REFUSED);
        due.is("count(3)", desk.count(3), 1);
    }

    private static void wordsStay(Due due) {
        due.says("Promise 8", "(Words stay as they were cut, whatever the TAPE has then");
        CourierDesk desk = Desks.withTape("one two");
        desk.words(' ', ' ', ' ', false);
        desk.end(0);
        due.is("word(1) of an empty TAPE", desk.word(1), 3);
        Desks.outIs(due, "word(1) of an empty TAPE", desk, "two");
        desk.feed(0x20202020, 0x20202020, 0x20202020, 0x20202020, 0x20202020);
        due.is("word(0) of another TAPE", desk.word(0), 3);
        Desks.outIs(due, "word(0) of another TAPE", desk, "one");
        desk.write(false, false);
        due.is("word(1) after write", desk.word(1), 3);
        Desks.outIs(due, "word(1) after write", desk, "two");
    }

    private static void outStays(Due due) {
        due.says("Promise 8", "OUT stays where it is REFUSED.)");
        CourierDesk desk = Desks.withTape("one two");
        desk.words(' ', ' ', ' ', false);
        desk.word(1);
        for (int k : new int[] {-1, 2, MIN, MAX}) {
            due.is("word(" + k + ")", desk.word(k), Due.REFUSED);
            Desks.outIs(due, "word(" + k + ")", desk, "two");
        }
    }

    private static CourierDesk withOut(String text) {
        CourierDesk desk = Desks.withTape(text);
        desk.words(0, 0, 0, false);
        desk.word(0);
        return desk;
    }

    private static void octets(Due due) {
        due.says("Promise 9", "Byte i of OUT");
        CourierDesk desk = withOut("a\u0080\u00ff\u0001");
        due.is("octet(0)", desk.octet(0), 'a');
        due.is("octet(1)", desk.octet(1), 128);
        due.is("octet(2)", desk.octet(2), 255);
        due.is("octet(3)", desk.octet(3), 1);
        CourierDesk longest = Desks.withTape("\u00ff".repeat(400));
        longest.write(false, false);
        due.is("octet(535)", longest.octet(535), '=');
        due.is("octet(536)", longest.octet(536), Due.REFUSED);
    }

    private static void howManyOctets(Due due) {
        due.says("Promise 9", "for i -1 how many.");
        due.is("octet(-1) of none", new CourierDesk().octet(-1), 0);
        due.is("octet(-1)", withOut("abc").octet(-1), 3);
        CourierDesk longest = Desks.withTape("x".repeat(400));
        longest.write(false, false);
        due.is("octet(-1) of the longest", longest.octet(-1), 536);
    }

    private static void refusedIfThereIsNoOctet(Due due) {
        due.says("Promise 9", "REFUSED if there is none.");
        due.is("octet(0) of none", new CourierDesk().octet(0), Due.REFUSED);
        CourierDesk desk = withOut("abc");
        for (int i : new int[] {3, 4, -2, -3, 535, 536, MIN, MAX}) {
            due.is("octet(" + i + ")", desk.octet(i), Due.REFUSED);
        }
    }
}
