/** Promises 7, 8 and 9: words, word and octet. */
final class WordsTest {
    public static void main(String[] args) {
        Due due = new Due();
        wordsAreCut(due);
        signsMayBeKept(due);
        wordsAtTheEdges(due);
        wordsRefuses(due);
        highBytesStayInWords(due);
        wordsStayAsTheyWereCut(due);
        wordRefuses(due);
        octetTells(due);
        due.finish();
    }

    private static void cutIs(Due due, String text, String signs, boolean kept, String... want) {
        CourierDesk desk = Desks.withTape(text);
        String call = "words of \"" + text + "\" at \"" + signs + "\", " + kept;
        due.is(call, desk.words(signs.charAt(0), signs.charAt(1), signs.charAt(2), kept), want.length);
        due.is(call + ": count(3)", desk.count(3), want.length);
        due.is(call + ": OUT stays", desk.octet(-1), 0);
        for (int k = 0; k < want.length; k++) {
            due.is(call + ": word(" + k + ")", desk.word(k), want[k].length());
            Desks.outIs(due, call + ": word(" + k + ")", desk, want[k]);
        }
        due.is(call + ": word behind the last", desk.word(want.length), Due.REFUSED);
        due.is(call + ": word(-1)", desk.word(-1), Due.REFUSED);
    }

    private static void wordsAreCut(Due due) {
        cutIs(due, "one two,three;four", " ,;", false, "one", "two", "three", "four");
        cutIs(due, ",,a,,b;; c,", ",; ", false, "a", "b", "c");
        cutIs(due, "one two", ",,,", false, "one two");
        cutIs(due, "a.b-c", "---", false, "a.b", "c");
    }

    private static void signsMayBeKept(Due due) {
        cutIs(due, "one two,three", " ,;", true, "one", " ", "two", ",", "three");
        cutIs(due, ",,a,,b; ", ",; ", true, ",", ",", "a", ",", ",", "b", ";", " ");
        cutIs(due, "a,b", ",,,", true, "a", ",", "b");
        cutIs(due, "ab", ",,,", true, "ab");
    }

    private static void wordsAtTheEdges(Due due) {
        cutIs(due, "", ",; ", false);
        cutIs(due, "", ",; ", true);
        cutIs(due, ",,,", ",; ", false);
        cutIs(due, ",", ",; ", true, ",");
        cutIs(due, "a\0b\u007fc", "\0\u007f\0", false, "a", "b", "c");
        CourierDesk desk = Desks.withTape("x".repeat(400));
        due.is("400 kept signs", desk.words('x', 'y', 'z', true), 400);
        due.is("the last of them", desk.word(399), 1);
        due.is("none kept", desk.words('x', 'y', 'z', false), 0);
        due.is("one long word", desk.words('y', 'y', 'z', true), 1);
        due.is("its bytes", desk.word(0), 400);
    }

    private static void wordsRefuses(Due due) {
        CourierDesk desk = Desks.withTape("a,b");
        desk.words(',', ',', ',', true);
        Desks.lay(desk, "x");
        for (int sign : new int[] {-1, 128, 255, 256 + ',', Integer.MIN_VALUE, Integer.MAX_VALUE}) {
            due.is("words(" + sign + ", 1, 2)", desk.words(sign, 1, 2, false), Due.REFUSED);
            due.is("words(1, " + sign + ", 2)", desk.words(1, sign, 2, true), Due.REFUSED);
            due.is("words(1, 2, " + sign + ")", desk.words(1, 2, sign, false), Due.REFUSED);
            due.is("the words stay", desk.count(3), 3);
        }
        due.is("word(2)", desk.word(2), 1);
        Desks.outIs(due, "word(2)", desk, "b");
        due.is("words(0, 127, 0)", desk.words(0, 127, 0, false), 1);
    }

    private static void highBytesStayInWords(Due due) {
        cutIs(due, "\u0080\u00ff,\u00ac", ",\u007f\0", false, "\u0080\u00ff", "\u00ac");
        CourierDesk desk = Desks.withTape("\u0080\u00ff");
        desk.words(0, 127, 0, false);
        desk.word(0);
        due.is("octet(0)", desk.octet(0), 128);
        due.is("octet(1)", desk.octet(1), 255);
    }

    private static void wordsStayAsTheyWereCut(Due due) {
        CourierDesk desk = Desks.withTape("red green");
        desk.words(' ', ' ', ' ', false);
        Desks.lay(desk, "x y z and more of it");
        due.is("count(3)", desk.count(3), 2);
        due.is("word(1)", desk.word(1), 5);
        Desks.outIs(due, "word(1)", desk, "green");
        due.is("word(0)", desk.word(0), 3);
        Desks.outIs(due, "word(0)", desk, "red");
        due.is("word(1) again", desk.word(1), 5);
        due.is("words again", desk.words(' ', ' ', ' ', true), 13);
        due.is("the last one", desk.word(12), 2);
        Desks.outIs(due, "the last one", desk, "it");
    }

    private static void wordRefuses(Due due) {
        CourierDesk desk = Desks.withTape("red green");
        desk.words(' ', ' ', ' ', false);
        desk.word(1);
        for (int k : new int[] {2, -1, 400, Integer.MIN_VALUE, Integer.MAX_VALUE}) {
            due.is("word(" + k + ")", desk.word(k), Due.REFUSED);
            Desks.outIs(due, "word(" + k + ")", desk, "green");
        }
    }

    private static void octetTells(Due due) {
        CourierDesk desk = Desks.withTape("abc de");
        desk.words(' ', ' ', ' ', false);
        desk.word(0);
        due.is("octet(-1)", desk.octet(-1), 3);
        due.is("octet(0)", desk.octet(0), 'a');
        due.is("octet(2)", desk.octet(2), 'c');
        desk.word(1);
        due.is("octet(-1)", desk.octet(-1), 2);
        due.is("octet(1)", desk.octet(1), 'e');
        for (int i : new int[] {2, -2, 536, 537, Integer.MIN_VALUE, Integer.MAX_VALUE}) {
            due.is("octet(" + i + ")", desk.octet(i), Due.REFUSED);
        }
    }
}
