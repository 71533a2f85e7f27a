import java.io.ByteArrayOutputStream;
import java.nio.ByteBuffer;
import java.nio.charset.StandardCharsets;
import java.util.ArrayList;
import java.util.Arrays;
import java.util.Base64;
import java.util.Collections;
import java.util.List;
import java.util.Stack;
import java.util.StringTokenizer;
import java.util.TreeSet;
import java.util.Vector;
import java.util.zip.CRC32C;

/** The document once more, made of the Java library, so that it errs in other ways than the program. */
final class Model {
    private byte[] tape = {};
    private byte[] out = {};
    private List<byte[]> latest = new ArrayList<>();
    private final Vector<Integer> rack = new Vector<>();
    private final Stack<Integer> pile = new Stack<>();
    private long lot = 0;

    int tapeLength() {
        return tape.length;
    }

    int feed(int... numbers) {
        if (tape.length > 380) {
            return Due.FULL;
        }
        ByteBuffer longer = ByteBuffer.allocate(tape.length + 20);
        longer.put(tape);
        for (int number : numbers) {
            longer.putInt(number);
        }
        tape = longer.array();
        return tape.length;
    }

    int end(int n) {
        if (n < 0 || n > tape.length) {
            return Due.REFUSED;
        }
        tape = Arrays.copyOf(tape, n);
        return n;
    }

    int write(boolean safe, boolean bare) {
        Base64.Encoder encoder = safe ? Base64.getUrlEncoder() : Base64.getEncoder();
        out = (bare ? encoder.withoutPadding() : encoder).encode(tape);
        return out.length;
    }

    int read(boolean safe) {
        try {
            out = (safe ? Base64.getUrlDecoder() : Base64.getDecoder()).decode(tape);
            return out.length;
        } catch (IllegalArgumentException notReadable) {
            return Due.REFUSED;
        }
    }

    long check(int from, int to) {
        if (from < 0 || to < from || to > tape.length) {
            return Due.APART;
        }
        CRC32C check = new CRC32C();
        check.update(tape, from, to - from);
        return check.getValue();
    }

    int words(int a, int b, int c, boolean kept) {
        for (int sign : new int[] {a, b, c}) {
            if (sign < 0 || sign > 127) {
                return Due.REFUSED;
            }
        }
        String signs = "" + (char) a + (char) b + (char) c;
        StringTokenizer cutter = new StringTokenizer(new String(tape, StandardCharsets.ISO_8859_1), signs, kept);
        latest = new ArrayList<>();
        while (cutter.hasMoreTokens()) {
            latest.add(cutter.nextToken().getBytes(StandardCharsets.ISO_8859_1));
        }
        return latest.size();
    }

    int word(int k) {
        if (k < 0 || k >= latest.size()) {
            return Due.REFUSED;
        }
        ByteArrayOutputStream copy = new ByteArrayOutputStream();
        copy.writeBytes(latest.get(k));
        out = copy.toByteArray();
        return out.length;
    }

    int octet(int i) {
        if (i == -1) {
            return out.length;
        }
        return i < 0 || i >= out.length ? Due.REFUSED : Byte.toUnsignedInt(out[i]);
    }

    long seed(long v) {
        long old = lot;
        lot = v;
        return old;
    }

    long draw() {
        long told = new java.util.SplittableRandom(lot).nextLong();
        lot -= 7046029254386353131L;
        return told;
    }

    int push(int number) {
        if (pile.size() == 600) {
            return Due.FULL;
        }
        pile.push(number);
        return pile.size();
    }

    long pop(boolean stays) {
        if (pile.empty()) {
            return Due.APART;
        }
        return stays ? pile.peek() : pile.pop();
    }

    int search(int number) {
        return pile.search(number);
    }

    private boolean lacks(int place) {
        return place < 0 || place >= rack.size();
    }

    int insert(int place, int number) {
        if (place < 0 || place > rack.size()) {
            return Due.REFUSED;
        }
        if (rack.size() == 600) {
            return Due.FULL;
        }
        rack.add(place, number);
        return rack.size();
    }

    long remove(int place) {
        return lacks(place) ? Due.APART : rack.remove(place).longValue();
    }

    long set(int place, int number) {
        return lacks(place) ? Due.APART : rack.set(place, number).longValue();
    }

    long get(int place) {
        return lacks(place) ? Due.APART : rack.get(place).longValue();
    }

    int find(int number, int place, boolean last) {
        if (lacks(place)) {
            return Due.REFUSED;
        }
        return last ? rack.lastIndexOf(number, place) : rack.indexOf(number, place);
    }

    int size(int n) {
        if (n < 0 || n > 600) {
            return Due.REFUSED;
        }
        rack.setSize(n);
        Collections.replaceAll(rack, null, 0);
        return n;
    }

    int turn(int op, int by) {
        if (op < 0 || op > 3) {
            return Due.REFUSED;
        }
        if (op == 0) {
            Collections.reverse(rack);
        } else if (op == 1) {
            Collections.rotate(rack, by);
        } else if (op == 2) {
            Collections.fill(rack, by);
        } else if (rack.size() + pile.size() > 600) {
            return Due.FULL;
        } else {
            rack.addAll(pile);
        }
        return rack.size();
    }

    int swap(int i, int j) {
        if (lacks(i) || lacks(j)) {
            return Due.REFUSED;
        }
        Collections.swap(rack, i, j);
        return 0;
    }

    long tell(int what, int by) {
        if (what < 0 || what > 5 || what < 2 && rack.isEmpty()) {
            return Due.APART;
        }
        return switch (what) {
            case 0 -> Collections.max(rack);
            case 1 -> Collections.min(rack);
            case 2 -> Collections.frequency(rack, by);
            case 3 -> Collections.disjoint(rack, pile) ? 1 : 0;
            case 4 -> Collections.indexOfSubList(rack, pile);
            default -> Collections.lastIndexOfSubList(rack, pile);
        };
    }

    int replace(int number, int other) {
        int there = Collections.frequency(rack, number);
        Collections.replaceAll(rack, number, other);
        return there;
    }

    int seek(int number) {
        if (!new ArrayList<>(new TreeSet<>(rack)).equals(rack)) {
            return -1000;
        }
        return Collections.binarySearch(rack, number);
    }

    int count(int what) {
        return switch (what) {
            case 0 -> rack.size();
            case 1 -> pile.size();
            case 2 -> tape.length;
            case 3 -> latest.size();
            default -> Due.REFUSED;
        };
    }
}
