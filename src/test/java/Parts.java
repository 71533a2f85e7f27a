/** What a desk holds, part by part: two desks in the same state have the same texts. */
record Parts(String tape, String words, String out, String lot, String pile, String rack) {
    private static final String[] NAMES = {"the TAPE", "the words", "OUT", "THE LOT", "the pile", "the rack"};
    private static final int MOST_LOOKED_AT = 100;

    /** The last look at a desk: to see it all, the rack, the pile and OUT are used. */
    static Parts of(CourierDesk desk) {
        String out = Desks.out(desk);
        String tape = tapeOf(desk);
        String rack = rackOf(desk);
        String lot = "" + desk.seed(0);
        StringBuilder words = new StringBuilder();
        for (int k = 0; k < desk.count(3); k++) {
            desk.word(k);
            words.append('[').append(Desks.out(desk)).append(']');
        }
        desk.size(0);
        desk.turn(3, 0);
        return new Parts(tape, words.toString(), out, lot, rackOf(desk), rack);
    }

    /** A long TAPE is known by its length and CHECK, so that the desk stays within its 512 calls. */
    private static String tapeOf(CourierDesk desk) {
        int length = desk.count(2);
        return length <= MOST_LOOKED_AT ? Desks.tape(desk) : length + " bytes, " + desk.check(0, length);
    }

    /** A long rack is looked at in its first places and its last ones, for the same reason. */
    private static String rackOf(CourierDesk desk) {
        StringBuilder numbers = new StringBuilder();
        int length = desk.count(0);
        for (int place = 0; place < length; place++) {
            if (place < MOST_LOOKED_AT / 2 || place >= length - MOST_LOOKED_AT / 2) {
                numbers.append(desk.get(place)).append(' ');
            }
        }
        return length <= MOST_LOOKED_AT ? numbers.toString() : length + " numbers, " + numbers;
    }

    private String[] all() {
        return new String[] {tape, words, out, lot, pile, rack};
    }

    void compare(Due due, String after, Parts want) {
        for (int i = 0; i < NAMES.length; i++) {
            due.same(after + ": " + NAMES[i], all()[i], want.all()[i]);
        }
    }

    /** As compare, but a part whose letter stands in changed (t w o l p r) must differ. */
    void compareBut(Due due, String after, Parts before, String changed) {
        for (int i = 0; i < NAMES.length; i++) {
            boolean toDiffer = changed.indexOf("twolpr".charAt(i)) >= 0;
            if (toDiffer) {
                due.holds(after + ": " + NAMES[i] + " is another one", !all()[i].equals(before.all()[i]));
            } else {
                due.same(after + ": " + NAMES[i], all()[i], before.all()[i]);
            }
        }
    }

    /** Each part has something, and behind the end of each row lies something that is gone. */
    static CourierDesk busyDesk() {
        CourierDesk desk = Desks.withTape("to be, or not");
        desk.words(' ', ',', ' ', true);
        Desks.lay(desk, "Zm9v YmFy and what is cut");
        desk.end(9);
        desk.word(5);
        Desks.pushAll(desk, 7, 8, 9, 3);
        desk.pop(false);
        int[] numbers = {3, -1, 4, -1, 5, 6, 2};
        for (int i = 0; i < numbers.length; i++) {
            desk.insert(i, numbers[i]);
        }
        desk.size(5);
        desk.seed(99);
        return desk;
    }
}
