import java.util.SplittableRandom;

/** The boundary cases that promises 10 to 14 name: seed, draw, push, pop and search. */
final class PileEdgeTest {
    private static final int MIN = Integer.MIN_VALUE;
    private static final int MAX = Integer.MAX_VALUE;

    public static void main(String[] args) {
        Due due = new Due();
        theOldLot(due);
        theLotWraps(due);
        partsWithoutSign(due);
        productsWrap(due);
        howManyThePileHas(due);
        fullWith600(due);
        theTopGoes(due);
        onlyTold(due);
        apartIfEmpty(due);
        theTopItselfIs1(due);
        theFirstFromTheTop(due);
        notThere(due);
        due.finish();
    }

    private static void theOldLot(Due due) {
        due.says("Promise 10", "THE LOT becomes v. The old one.");
        CourierDesk desk = new CourierDesk();
        long old = 0;
        for (long v : new long[] {-1, Long.MIN_VALUE, Long.MAX_VALUE, Due.APART, 1L << 32, 0}) {
            due.is("seed(" + v + ")", desk.seed(v), old);
            old = v;
        }
    }

    private static void theLotWraps(Due due) {
        due.says("Promise 11", "THE LOT gets -7046029254386353131 more (wrapping).");
        CourierDesk desk = new CourierDesk();
        desk.draw();
        due.is("seed after one draw", desk.seed(Long.MIN_VALUE), -7046029254386353131L);
        desk.draw();
        due.is("seed after a draw from the least", desk.seed(0), 2177342782468422677L);
        desk.draw();
        desk.draw();
        due.is("seed after two draws", desk.seed(7046029254386353131L), 4354685564936845354L);
        due.is("draw() of 0", desk.draw(), 0);
        due.is("seed after it", desk.seed(0), 0);
    }

    private static void partsWithoutSign(Due due) {
        due.says("Promise 11", "(without sign, rounded down, as all here)");
        due.is("the first draw()", new CourierDesk().draw(), -2152535657050944081L);
        for (long lot : new long[] {-1, 1, Long.MIN_VALUE, Long.MAX_VALUE, 1L << 30, 1L << 27, 1L << 31}) {
            CourierDesk desk = new CourierDesk();
            desk.seed(lot + 7046029254386353131L);
            SplittableRandom library = new SplittableRandom(lot + 7046029254386353131L);
            due.is("draw() of " + lot, desk.draw(), library.nextLong());
            due.is("draw() behind " + lot, desk.draw(), library.nextLong());
        }
    }

    private static void productsWrap(Due due) {
        due.says("Promise 11", "that with its 2^31st part (wrapping).");
        CourierDesk desk = new CourierDesk();
        desk.seed(42);
        due.is("the first draw() of 42", desk.draw(), -4767286540954276203L);
        due.is("the second draw() of 42", desk.draw(), 2949826092126892291L);
        due.is("the third draw() of 42", desk.draw(), 5139283748462763858L);
    }

    private static void howManyThePileHas(Due due) {
        due.says("Promise 12", "A number comes to the pile's top: how many it has");
        CourierDesk desk = new CourierDesk();
        int[] numbers = {MIN, -3, -1, 0, MAX};
        for (int i = 0; i < numbers.length; i++) {
            due.is("push(" + numbers[i] + ")", desk.push(numbers[i]), i + 1);
            due.is("pop(true)", desk.pop(true), numbers[i]);
        }
        Desks.pileIs(due, "push", desk, numbers);
    }

    /**
     * The pile grows by one number a call, so no object has 600 within its 512 calls, and "what later calls answer
     * is free". This is the only test that goes beyond them: the sentence is kept to all the same, and a push
     * without room must not throw (LANGUAGE.md, rule 7).
     */
    private static void fullWith600(Due due) {
        due.says("Promise 12", "FULL with 600.");
        CourierDesk desk = new CourierDesk();
        for (int n = 1; n <= 599; n++) {
            desk.push(n);
        }
        due.is("push to 600", desk.push(-600), 600);
        due.is("push with 600", desk.push(7), Due.FULL);
        due.is("count(1)", desk.count(1), 600);
        due.is("pop(false)", desk.pop(false), -600);
        due.is("push with 599", desk.push(7), 600);
    }

    private static void theTopGoes(Due due) {
        due.says("Promise 13", "The pile's top goes");
        CourierDesk desk = new CourierDesk();
        Desks.pushAll(desk, MIN, -1, MAX);
        due.is("pop(false)", desk.pop(false), MAX);
        Desks.pileIs(due, "pop(false)", desk, MIN, -1);
        due.is("pop(false)", desk.pop(false), -1);
        due.is("pop(false)", desk.pop(false), MIN);
        due.is("count(1)", desk.count(1), 0);
    }

    private static void onlyTold(Due due) {
        due.says("Promise 13", "(or, if stays, is only told)");
        CourierDesk desk = new CourierDesk();
        Desks.pushAll(desk, 4, MIN);
        due.is("pop(true)", desk.pop(true), MIN);
        due.is("pop(true) again", desk.pop(true), MIN);
        Desks.pileIs(due, "pop(true)", desk, 4, MIN);
    }

    private static void apartIfEmpty(Due due) {
        due.says("Promise 13", "APART if it is empty.");
        CourierDesk desk = new CourierDesk();
        due.is("pop(false) of a new one", desk.pop(false), Due.APART);
        due.is("pop(true) of a new one", desk.pop(true), Due.APART);
        due.is("push(5)", desk.push(5), 1);
        due.is("pop(false)", desk.pop(false), 5);
        due.is("pop(true) of none", desk.pop(true), Due.APART);
        due.is("pop(false) of none", desk.pop(false), Due.APART);
        due.is("count(1)", desk.count(1), 0);
        due.is("push(6)", desk.push(6), 1);
    }

    private static void theTopItselfIs1(Due due) {
        due.says("Promise 14", "How far from the top a number is first, the top itself 1");
        CourierDesk desk = new CourierDesk();
        desk.push(5);
        due.is("search(5), the only one", desk.search(5), 1);
        Desks.pushAll(desk, 6, 7);
        due.is("search(7), the top", desk.search(7), 1);
        due.is("search(6)", desk.search(6), 2);
        due.is("search(5), the lowest", desk.search(5), 3);
    }

    private static void theFirstFromTheTop(Due due) {
        due.says("Promise 14", "is first");
        CourierDesk desk = new CourierDesk();
        Desks.pushAll(desk, 5, 6, 5, 6, 6);
        due.is("search(6)", desk.search(6), 1);
        due.is("search(5)", desk.search(5), 3);
    }

    private static void notThere(Due due) {
        due.says("Promise 14", "REFUSED if it is not there.");
        CourierDesk desk = Desks.withRack(8);
        due.is("search(0) of none", desk.search(0), Due.REFUSED);
        Desks.pushAll(desk, 5, 6);
        due.is("search(7)", desk.search(7), Due.REFUSED);
        due.is("search(0)", desk.search(0), Due.REFUSED);
        due.is("search(8), which the rack has", desk.search(8), Due.REFUSED);
        desk.pop(false);
        due.is("search(6), which went", desk.search(6), Due.REFUSED);
        desk.pop(false);
        due.is("search(5), which went", desk.search(5), Due.REFUSED);
    }
}
