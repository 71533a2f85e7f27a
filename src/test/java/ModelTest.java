import java.nio.charset.StandardCharsets;
import java.util.Random;

/** All promises together: drawn runs of 512 calls, each answer compared with that of the Model. */
final class ModelTest {
    private static final int RUNS = 3000;
    private static final int CALLS = 512;
    private static final int MOST_CALLS_OF_A_STEP = 4;
    private static final int[] EDGES = {0, 1, -1, 2, 127, 128, 255, 399, 400, 401, 599, 600, 601,
        Integer.MIN_VALUE, Integer.MAX_VALUE};

    private final Due due = new Due();
    private final Random random;
    private final CourierDesk desk = new CourierDesk();
    private final Model model = new Model();
    private final int run;
    private int calls = 0;

    private ModelTest(int run) {
        this.run = run;
        random = new Random(run);
    }

    public static void main(String[] args) {
        for (int run = 0; run < RUNS; run++) {
            ModelTest test = new ModelTest(run);
            while (test.calls <= CALLS - MOST_CALLS_OF_A_STEP) {
                test.step();
            }
            // One call each, so that the run ends with the last call that is promised.
            while (test.calls < CALLS) {
                test.askStep();
            }
            test.due.is("calls of run " + run, test.calls, CALLS);
            test.due.finish();
        }
    }

    private void is(String call, long got, long want) {
        calls++;
        due.is("run " + run + ", call " + calls + ": " + call, got, want);
    }

    /** A number of few, so that numbers meet again, or an edge. */
    private int number() {
        return random.nextInt(12) == 0 ? EDGES[random.nextInt(EDGES.length)] : random.nextInt(5) - 1;
    }

    /** A place up to a little beyond a length, or an edge. */
    private int place(int length) {
        return random.nextInt(12) == 0 ? EDGES[random.nextInt(EDGES.length)] : random.nextInt(length + 3) - 1;
    }

    private void step() {
        switch (random.nextInt(4)) {
            case 0:
                tapeStep();
                break;
            case 1:
                outStep();
                break;
            default:
                numberStep();
                break;
        }
    }

    private void tapeStep() {
        switch (random.nextInt(6)) {
            case 0:
                layMessage();
                break;
            case 1:
                feed(random.nextInt(), number(), random.nextInt(), number(), random.nextInt());
                break;
            case 2:
                int n = place(model.tapeLength());
                is("end(" + n + ")", desk.end(n), model.end(n));
                break;
            case 3:
                int from = place(model.tapeLength());
                int to = place(model.tapeLength());
                is("check(" + from + ", " + to + ")", desk.check(from, to), model.check(from, to));
                break;
            default:
                int a = sign();
                int b = sign();
                int c = sign();
                boolean kept = random.nextBoolean();
                is("words(" + a + ", " + b + ", " + c + ", " + kept + ")",
                        desk.words(a, b, c, kept), model.words(a, b, c, kept));
                break;
        }
    }

    private int sign() {
        return random.nextInt(8) == 0 ? number() : "AZ+/-_= ".charAt(random.nextInt(8));
    }

    /** Signs, mostly of one kind, with = behind, so that many of them can be read. */
    private void layMessage() {
        is("end(0)", desk.end(0), model.end(0));
        String signs = random.nextBoolean() ? "AZaz09+/" : random.nextBoolean() ? "AZaz09-_" : "AZ+/-_= ";
        StringBuilder text = new StringBuilder();
        for (int left = random.nextInt(30); left > 0; left--) {
            text.append(signs.charAt(random.nextInt(signs.length())));
        }
        text.append("=".repeat(random.nextInt(3)));
        int length = text.length();
        text.append("\0".repeat(40 - length));
        byte[] bytes = text.toString().getBytes(StandardCharsets.ISO_8859_1);
        for (int at = 0; at < 40; at += 20) {
            feed(four(bytes, at), four(bytes, at + 4), four(bytes, at + 8), four(bytes, at + 12), four(bytes, at + 16));
        }
        is("end(" + length + ")", desk.end(length), model.end(length));
    }

    private static int four(byte[] bytes, int at) {
        return bytes[at] << 24 | bytes[at + 1] << 16 | bytes[at + 2] << 8 | bytes[at + 3];
    }

    private void feed(int a, int b, int c, int d, int e) {
        is("feed(" + a + ", " + b + ", " + c + ", " + d + ", " + e + ")",
                desk.feed(a, b, c, d, e), model.feed(a, b, c, d, e));
    }

    private void outStep() {
        boolean safe = random.nextBoolean();
        switch (random.nextInt(6)) {
            case 0:
                boolean bare = random.nextBoolean();
                is("write(" + safe + ", " + bare + ")", desk.write(safe, bare), model.write(safe, bare));
                break;
            case 1:
                is("read(" + safe + ")", desk.read(safe), model.read(safe));
                break;
            case 2:
                int k = place(model.count(3));
                is("word(" + k + ")", desk.word(k), model.word(k));
                break;
            case 3:
                lotStep();
                break;
            default:
                break;
        }
        int i = place(model.octet(-1));
        is("octet(" + i + ")", desk.octet(i), model.octet(i));
        is("octet(-1)", desk.octet(-1), model.octet(-1));
    }

    private void lotStep() {
        if (random.nextInt(3) == 0) {
            long v = random.nextLong();
            is("seed(" + v + ")", desk.seed(v), model.seed(v));
        }
        is("draw()", desk.draw(), model.draw());
    }

    private void numberStep() {
        switch (random.nextInt(4)) {
            case 0:
                pileStep();
                break;
            case 1:
                placeStep();
                break;
            case 2:
                rackStep();
                break;
            default:
                askStep();
                break;
        }
    }

    private void pileStep() {
        int number = number();
        boolean stays = random.nextInt(3) == 0;
        switch (random.nextInt(5)) {
            case 0:
            case 1:
                is("push(" + number + ")", desk.push(number), model.push(number));
                break;
            case 2:
            case 3:
                is("pop(" + stays + ")", desk.pop(stays), model.pop(stays));
                break;
            default:
                is("search(" + number + ")", desk.search(number), model.search(number));
                break;
        }
    }

    private void placeStep() {
        int place = place(model.count(0));
        int number = number();
        switch (random.nextInt(6)) {
            case 0:
            case 1:
                is("insert(" + place + ", " + number + ")", desk.insert(place, number), model.insert(place, number));
                break;
            case 2:
                is("remove(" + place + ")", desk.remove(place), model.remove(place));
                break;
            case 3:
                is("set(" + place + ", " + number + ")", desk.set(place, number), model.set(place, number));
                break;
            case 4:
                is("get(" + place + ")", desk.get(place), model.get(place));
                break;
            default:
                boolean last = random.nextBoolean();
                is("find(" + number + ", " + place + ", " + last + ")",
                        desk.find(number, place, last), model.find(number, place, last));
                break;
        }
    }

    private void rackStep() {
        int op = random.nextInt(6) - 1;
        int number = number();
        int i = place(model.count(0));
        int j = place(model.count(0));
        switch (random.nextInt(5)) {
            case 0:
                int n = random.nextInt(3) == 0 ? place(600) : random.nextInt(8);
                is("size(" + n + ")", desk.size(n), model.size(n));
                break;
            case 1:
                is("swap(" + i + ", " + j + ")", desk.swap(i, j), model.swap(i, j));
                break;
            case 2:
                int other = number();
                is("replace(" + number + ", " + other + ")",
                        desk.replace(number, other), model.replace(number, other));
                break;
            default:
                is("turn(" + op + ", " + number + ")", desk.turn(op, number), model.turn(op, number));
                break;
        }
    }

    private void askStep() {
        int what = random.nextInt(8) - 1;
        int number = number();
        switch (random.nextInt(4)) {
            case 0:
                is("count(" + what + ")", desk.count(what), model.count(what));
                break;
            case 1:
                is("seek(" + number + ")", desk.seek(number), model.seek(number));
                break;
            default:
                is("tell(" + what + ", " + number + ")", desk.tell(what, number), model.tell(what, number));
                break;
        }
    }
}
