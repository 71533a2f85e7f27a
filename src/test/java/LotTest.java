import java.util.SplittableRandom;

/** Promises 10 and 11: seed and draw. */
final class LotTest {
    public static void main(String[] args) {
        Due due = new Due();
        seedTellsTheOldOne(due);
        drawFromZero(due);
        drawMovesTheLot(due);
        drawIsThatOfTheLibrary(due);
        due.finish();
    }

    private static void seedTellsTheOldOne(Due due) {
        CourierDesk desk = new CourierDesk();
        due.is("seed(5)", desk.seed(5), 0);
        due.is("seed(MIN)", desk.seed(Long.MIN_VALUE), 5);
        due.is("seed(MAX)", desk.seed(Long.MAX_VALUE), Long.MIN_VALUE);
        due.is("seed(0)", desk.seed(0), Long.MAX_VALUE);
    }

    private static void drawFromZero(Due due) {
        CourierDesk desk = new CourierDesk();
        due.is("draw()", desk.draw(), -2152535657050944081L);
        due.is("draw()", desk.draw(), 7960286522194355700L);
        due.is("draw()", desk.draw(), 487617019471545679L);
    }

    private static void drawMovesTheLot(Due due) {
        CourierDesk desk = new CourierDesk();
        desk.seed(42);
        due.is("draw()", desk.draw(), -4767286540954276203L);
        due.is("seed(42)", desk.seed(42), 42 + -7046029254386353131L);
        due.is("the same draw()", desk.draw(), -4767286540954276203L);
        desk.draw();
        due.is("two steps", desk.seed(0), 42 + 2 * -7046029254386353131L);
    }

    private static void drawIsThatOfTheLibrary(Due due) {
        for (long seed : new long[] {0, 1, -1, Long.MIN_VALUE, Long.MAX_VALUE, 7046029254386353131L, 1L << 31}) {
            SplittableRandom library = new SplittableRandom(seed);
            CourierDesk desk = new CourierDesk();
            desk.seed(seed);
            for (int i = 0; i < 100; i++) {
                due.is("draw() " + i + " of " + seed, desk.draw(), library.nextLong());
            }
        }
    }
}
