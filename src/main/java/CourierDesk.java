import java.util.Arrays;

/**
 * A desk where messages are written in 64 signs, read, checked and cut into words,
 * and where numbers are kept on a rack and in a pile.
 */
public final class CourierDesk {
    public static final int REFUSED = -1, FULL = -3;

    private static final long APART = 1L << 40;
    private static final int UNORDERED = -1000;

    private static final int TAPE_LIMIT = 400;
    // 400 bytes are 134 groups of four signs.
    private static final int OUT_LIMIT = 536;
    private static final int NUMBERS_LIMIT = 600;
    private static final int FEED_BYTES = 20;
    private static final int LAST_CUTTING_SIGN = 127;

    private static final long ALL_32_BITS = (1L << 32) - 1;
    private static final long CHECK_MASK = 2197175160L;

    private static final long LOT_STEP = -7046029254386353131L;
    private static final long FIRST_FACTOR = -4658895280553007687L;
    private static final long SECOND_FACTOR = -7723592293110705685L;

    private final Row tape;
    private final Row out;
    private final Row rack;
    private final Row pile;
    private final Words latest;
    private long lot;

    public CourierDesk() {
        tape = new Row(TAPE_LIMIT);
        out = new Row(OUT_LIMIT);
        rack = new Row(NUMBERS_LIMIT);
        pile = new Row(NUMBERS_LIMIT);
        latest = new Words(TAPE_LIMIT);
        lot = 0;
    }

    public int feed(int a, int b, int c, int d, int e) {
        if (!tape.hasRoomFor(FEED_BYTES)) {
            return FULL;
        }
        addFourBytes(a);
        addFourBytes(b);
        addFourBytes(c);
        addFourBytes(d);
        addFourBytes(e);
        return tape.length();
    }

    private void addFourBytes(int bytes) {
        for (int shift = 24; shift >= 0; shift -= 8) {
            tape.add((bytes >>> shift) & 255);
        }
    }

    public int end(int n) {
        if (n < 0 || n > tape.length()) {
            return REFUSED;
        }
        tape.resize(n);
        return n;
    }

    public int write(boolean safe, boolean bare) {
        out.clear();
        for (int from = 0; from < tape.length(); from += 3) {
            Signs.writeGroup(tape, from, out, safe, bare);
        }
        return out.length();
    }

    public int read(boolean safe) {
        int signs = Signs.leading(tape, safe);
        if (!Signs.mayEnd(tape, signs)) {
            return REFUSED;
        }
        out.clear();
        Signs.readAll(tape, signs, out, safe);
        return out.length();
    }

    public long check(int from, int to) {
        if (from < 0 || to < from || to > tape.length()) {
            return APART;
        }
        long v = ALL_32_BITS;
        for (int place = from; place < to; place++) {
            v = checkedWith(v, tape.at(place));
        }
        return ALL_32_BITS - v;
    }

    private static long checkedWith(long before, int oneByte) {
        long v = before ^ oneByte;
        for (int bit = 0; bit < 8; bit++) {
            boolean odd = (v & 1) != 0;
            v = v >>> 1;
            if (odd) {
                v = v ^ CHECK_MASK;
            }
        }
        return v;
    }

    public int words(int a, int b, int c, boolean kept) {
        if (!cuts(a) || !cuts(b) || !cuts(c)) {
            return REFUSED;
        }
        latest.cut(tape, a, b, c, kept);
        return latest.howMany();
    }

    private static boolean cuts(int sign) {
        return sign >= 0 && sign <= LAST_CUTTING_SIGN;
    }

    public int word(int k) {
        if (k < 0 || k >= latest.howMany()) {
            return REFUSED;
        }
        out.clear();
        latest.copyWord(k, out);
        return out.length();
    }

    public int octet(int i) {
        if (i == -1) {
            return out.length();
        }
        return out.has(i) ? out.at(i) : REFUSED;
    }

    public long seed(long v) {
        long old = lot;
        lot = v;
        return old;
    }

    public long draw() {
        lot += LOT_STEP;
        long x = lot;
        x = (x ^ (x >>> 30)) * FIRST_FACTOR;
        x = (x ^ (x >>> 27)) * SECOND_FACTOR;
        return x ^ (x >>> 31);
    }

    public int push(int number) {
        if (!pile.hasRoomFor(1)) {
            return FULL;
        }
        pile.add(number);
        return pile.length();
    }

    public long pop(boolean stays) {
        int top = pile.length() - 1;
        if (top < 0) {
            return APART;
        }
        int number = pile.at(top);
        if (!stays) {
            pile.resize(top);
        }
        return number;
    }

    public int search(int number) {
        int place = pile.lastUpTo(pile.length() - 1, number);
        return place < 0 ? REFUSED : pile.length() - place;
    }

    public int insert(int place, int number) {
        if (place < 0 || place > rack.length()) {
            return REFUSED;
        }
        if (!rack.hasRoomFor(1)) {
            return FULL;
        }
        rack.addAt(place, number);
        return rack.length();
    }

    public long remove(int place) {
        if (!rack.has(place)) {
            return APART;
        }
        int old = rack.at(place);
        rack.dropAt(place);
        return old;
    }

    public long set(int place, int number) {
        if (!rack.has(place)) {
            return APART;
        }
        int old = rack.at(place);
        rack.put(place, number);
        return old;
    }

    public long get(int place) {
        return rack.has(place) ? rack.at(place) : APART;
    }

    public int find(int number, int place, boolean last) {
        if (!rack.has(place)) {
            return REFUSED;
        }
        int found = last ? rack.lastUpTo(place, number) : rack.firstFrom(place, number);
        return found < 0 ? REFUSED : found;
    }

    public int size(int n) {
        if (n < 0 || n > NUMBERS_LIMIT) {
            return REFUSED;
        }
        rack.resize(n);
        return n;
    }

    public int turn(int op, int by) {
        switch (op) {
            case 0:
                rack.reverse(0, rack.length());
                break;
            case 1:
                rack.rotate(by);
                break;
            case 2:
                rack.fill(by);
                break;
            case 3:
                if (!rack.hasRoomFor(pile.length())) {
                    return FULL;
                }
                rack.addPart(pile, 0, pile.length());
                break;
            default:
                return REFUSED;
        }
        return rack.length();
    }

    public int swap(int i, int j) {
        if (!rack.has(i) || !rack.has(j)) {
            return REFUSED;
        }
        rack.exchange(i, j);
        return 0;
    }

    public long tell(int what, int by) {
        switch (what) {
            case 0:
                return rack.length() == 0 ? APART : rack.greatest();
            case 1:
                return rack.length() == 0 ? APART : rack.least();
            case 2:
                return rack.howOften(by);
            case 3:
                return rack.sharesWith(pile) ? 0 : 1;
            case 4:
                return rack.firstPlaceOfAll(pile);
            case 5:
                return rack.lastPlaceOfAll(pile);
            default:
                return APART;
        }
    }

    public int replace(int number, int other) {
        int changed = 0;
        for (int place = 0; place < rack.length(); place++) {
            if (rack.at(place) == number) {
                rack.put(place, other);
                changed++;
            }
        }
        return changed;
    }

    public int seek(int number) {
        if (!rack.rises()) {
            return UNORDERED;
        }
        int place = rack.firstNotBelow(number);
        boolean there = rack.has(place) && rack.at(place) == number;
        return there ? place : -1 - place;
    }

    public int count(int what) {
        switch (what) {
            case 0:
                return rack.length();
            case 1:
                return pile.length();
            case 2:
                return tape.length();
            case 3:
                return latest.howMany();
            default:
                return REFUSED;
        }
    }

    /**
     * Ints in a row. Its room is made once, because nothing that a run makes is given back.
     * Callers look at has, length and hasRoomFor before they name a place or add.
     */
    private static final class Row {
        private static final int NOWHERE = -1;

        private final int[] numbers;
        private int length;

        Row(int limit) {
            numbers = new int[limit];
            length = 0;
        }

        int length() {
            return length;
        }

        boolean has(int place) {
            return place >= 0 && place < length;
        }

        boolean hasRoomFor(int more) {
            return more <= numbers.length - length;
        }

        int at(int place) {
            return numbers[place];
        }

        void put(int place, int number) {
            numbers[place] = number;
        }

        void clear() {
            length = 0;
        }

        void add(int number) {
            numbers[length] = number;
            length++;
        }

        void addPart(Row other, int from, int to) {
            System.arraycopy(other.numbers, from, numbers, length, to - from);
            length += to - from;
        }

        void addAt(int place, int number) {
            System.arraycopy(numbers, place, numbers, place + 1, length - place);
            numbers[place] = number;
            length++;
        }

        void dropAt(int place) {
            System.arraycopy(numbers, place + 1, numbers, place, length - place - 1);
            length--;
        }

        void resize(int wanted) {
            // What was cut off earlier still lies behind the end.
            for (int place = length; place < wanted; place++) {
                numbers[place] = 0;
            }
            length = wanted;
        }

        void fill(int number) {
            Arrays.fill(numbers, 0, length, number);
        }

        void exchange(int i, int j) {
            int kept = numbers[i];
            numbers[i] = numbers[j];
            numbers[j] = kept;
        }

        void reverse(int from, int to) {
            for (int i = from, j = to - 1; i < j; i++, j--) {
                exchange(i, j);
            }
        }

        void rotate(int by) {
            if (length == 0) {
                return;
            }
            // Three reversals turn the row without a second one.
            int front = Math.floorMod(by, length);
            reverse(0, length);
            reverse(0, front);
            reverse(front, length);
        }

        int firstFrom(int start, int number) {
            for (int place = start; place < length; place++) {
                if (numbers[place] == number) {
                    return place;
                }
            }
            return NOWHERE;
        }

        int lastUpTo(int start, int number) {
            for (int place = start; place >= 0; place--) {
                if (numbers[place] == number) {
                    return place;
                }
            }
            return NOWHERE;
        }

        int howOften(int number) {
            int times = 0;
            for (int place = 0; place < length; place++) {
                if (numbers[place] == number) {
                    times++;
                }
            }
            return times;
        }

        int greatest() {
            int most = Integer.MIN_VALUE;
            for (int place = 0; place < length; place++) {
                most = Math.max(most, numbers[place]);
            }
            return most;
        }

        int least() {
            int fewest = Integer.MAX_VALUE;
            for (int place = 0; place < length; place++) {
                fewest = Math.min(fewest, numbers[place]);
            }
            return fewest;
        }

        boolean sharesWith(Row other) {
            for (int place = 0; place < other.length; place++) {
                if (firstFrom(0, other.numbers[place]) != NOWHERE) {
                    return true;
                }
            }
            return false;
        }

        int firstPlaceOfAll(Row part) {
            for (int start = 0; start <= length - part.length; start++) {
                if (standsAt(start, part)) {
                    return start;
                }
            }
            return NOWHERE;
        }

        int lastPlaceOfAll(Row part) {
            for (int start = length - part.length; start >= 0; start--) {
                if (standsAt(start, part)) {
                    return start;
                }
            }
            return NOWHERE;
        }

        private boolean standsAt(int start, Row part) {
            for (int place = 0; place < part.length; place++) {
                if (numbers[start + place] != part.numbers[place]) {
                    return false;
                }
            }
            return true;
        }

        boolean rises() {
            for (int place = 1; place < length; place++) {
                if (numbers[place - 1] >= numbers[place]) {
                    return false;
                }
            }
            return true;
        }

        int firstNotBelow(int number) {
            int place = 0;
            while (place < length && numbers[place] < number) {
                place++;
            }
            return place;
        }
    }

    /** The 64 signs, and messages in them. */
    private static final class Signs {
        private static final int NO_SIGN = -1;

        private Signs() {
        }

        static int signOf(int value, boolean safe) {
            if (value < 26) {
                return 'A' + value;
            }
            if (value < 52) {
                return 'a' + value - 26;
            }
            if (value < 62) {
                return '0' + value - 52;
            }
            if (value == 62) {
                return safe ? '-' : '+';
            }
            return safe ? '_' : '/';
        }

        static int sixBitsOf(int sign, boolean safe) {
            if (sign >= 'A' && sign <= 'Z') {
                return sign - 'A';
            }
            if (sign >= 'a' && sign <= 'z') {
                return sign - 'a' + 26;
            }
            if (sign >= '0' && sign <= '9') {
                return sign - '0' + 52;
            }
            if (sign == (safe ? '-' : '+')) {
                return 62;
            }
            return sign == (safe ? '_' : '/') ? 63 : NO_SIGN;
        }

        static void writeGroup(Row bytes, int from, Row out, boolean safe, boolean bare) {
            int taken = Math.min(3, bytes.length() - from);
            int bits = 0;
            for (int i = 0; i < 3; i++) {
                bits = (bits << 8) | (i < taken ? bytes.at(from + i) : 0);
            }
            for (int i = 0; i < 4; i++) {
                if (i <= taken) {
                    out.add(signOf((bits >>> (18 - 6 * i)) & 63, safe));
                } else if (!bare) {
                    out.add('=');
                }
            }
        }

        static int leading(Row bytes, boolean safe) {
            int signs = 0;
            while (signs < bytes.length() && sixBitsOf(bytes.at(signs), safe) != NO_SIGN) {
                signs++;
            }
            return signs;
        }

        /** Whether a message may have so many signs, and behind them what the row has there. */
        static boolean mayEnd(Row bytes, int signs) {
            for (int place = signs; place < bytes.length(); place++) {
                if (bytes.at(place) != '=') {
                    return false;
                }
            }
            int behind = bytes.length() - signs;
            int over = signs % 4;
            if (over == 1) {
                return false;
            }
            return behind == 0 || (over != 0 && behind == 4 - over);
        }

        static void readAll(Row bytes, int signs, Row out, boolean safe) {
            // Older bits leave at the top; no more than the newest 12 are ever asked for.
            int bits = 0;
            for (int place = 0; place < signs; place++) {
                bits = (bits << 6) | sixBitsOf(bytes.at(place), safe);
                int inGroup = place % 4;
                // Each sign of a group but its first one makes a byte whole.
                if (inGroup != 0) {
                    out.add((bits >>> (6 - 2 * inGroup)) & 255);
                }
            }
        }
    }

    /** The latest words: their bytes one behind the other, and where each one ends. */
    private static final class Words {
        private final Row bytes;
        private final Row ends;

        Words(int limit) {
            bytes = new Row(limit);
            ends = new Row(limit);
        }

        int howMany() {
            return ends.length();
        }

        void cut(Row text, int a, int b, int c, boolean kept) {
            bytes.clear();
            ends.clear();
            for (int place = 0; place < text.length(); place++) {
                int sign = text.at(place);
                boolean cutting = sign == a || sign == b || sign == c;
                if (cutting) {
                    closeWord();
                }
                if (!cutting || kept) {
                    bytes.add(sign);
                }
                if (cutting) {
                    closeWord();
                }
            }
            closeWord();
        }

        /** No word is empty, so nothing happens where no byte came since the last one. */
        private void closeWord() {
            if (bytes.length() > startOf(ends.length())) {
                ends.add(bytes.length());
            }
        }

        private int startOf(int k) {
            return k == 0 ? 0 : ends.at(k - 1);
        }

        void copyWord(int k, Row out) {
            out.addPart(bytes, startOf(k), ends.at(k));
        }
    }
}
