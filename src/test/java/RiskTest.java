/** Promises 28 to 33: the risks. */
final class RiskTest {
    private static final Class<IndexOutOfBoundsException> NO_INDEX = IndexOutOfBoundsException.class;
    private static final Class<IllegalArgumentException> ARGUMENT = IllegalArgumentException.class;
    private static final Class<IllegalStateException> STATE = IllegalStateException.class;

    public static void main(String[] args) {
        addRisk();
        lower();
        raise();
        chanceLowered();
        chanceRaised();
        chanceInOrder();
        exposure();
        changeByDropping();
        Check.end();
    }

    private static void addRisk() {
        SpecBoard book = new SpecBoard();
        int[][] wrong = {{-1, 1}, {1001, 1}, {1, -1}, {1, 10000},
            {Integer.MIN_VALUE, 1}, {1, Integer.MAX_VALUE}};
        for (int[] pair : wrong) {
            Check.fails("28: " + pair[0] + ", " + pair[1], ARGUMENT, () -> book.addRisk(pair[0], pair[1]));
        }
        Check.same("28: least", 0, book.addRisk(0, 0));
        Check.same("28: most", 1, book.addRisk(1000, 9999));
        Check.same("28: the chance is kept", 1000, book.chance(1));
        Check.same("28: the harm is kept", 9999L, book.exposure());
        for (int i = 2; i < 8; i++) {
            Check.same("28: number", i, book.addRisk(1, 1));
        }
        Check.fails("28: a ninth", STATE, () -> book.addRisk(1, 1));
        Check.fails("28: the range comes before the number", ARGUMENT, () -> book.addRisk(1001, 1));
        Check.same("28: without effects", 8, book.openEnds('r'));
    }

    private static void lower() {
        SpecBoard book = Books.withWishes(1);
        book.addRisk(500, 1);
        book.addRisk(500, 1);
        Check.same("29: least", 1, book.lower(0, 0, 1));
        Check.same("29: most", 2, book.lower(0, 0, 100));
        for (int wrong : new int[] {0, 101, -1, Integer.MIN_VALUE, Integer.MAX_VALUE}) {
            Check.fails("29: " + wrong, ARGUMENT, () -> book.lower(0, 0, wrong));
        }
        Check.same("29: another risk", 1, book.lower(1, 0, 1));
        book.raise(0, 0, 1);
        Check.same("29: four, a raising one too", 4, book.lower(0, 0, 1));
        Check.same("29: five", 5, book.lower(0, 0, 1));
        Check.same("29: six", 6, book.lower(0, 0, 1));
        Check.fails("29: a seventh", STATE, () -> book.lower(0, 0, 1));
        Check.fails("29: the range comes before the number", ARGUMENT, () -> book.lower(0, 0, 101));
        Check.fails("29: no risk", NO_INDEX, () -> book.lower(2, 0, 1));
        Check.fails("29: no wish", NO_INDEX, () -> book.lower(1, 1, 1));
        Check.fails("29: risk below 0", NO_INDEX, () -> book.lower(-1, 0, 1));
        Check.fails("29: wish below 0", NO_INDEX, () -> book.lower(1, -1, 1));
        Check.fails("29: no risk comes before the range", NO_INDEX, () -> book.lower(2, 0, 0));
        Check.fails("29: no wish comes before the range", NO_INDEX, () -> book.lower(1, 1, 0));
        Check.fails("29: no wish comes before the number", NO_INDEX, () -> book.lower(0, 1, 1));
    }

    private static void raise() {
        SpecBoard book = Books.withWishes(1);
        book.addRisk(500, 1);
        book.addRisk(500, 1);
        Check.same("30: least", 1, book.raise(0, 0, 1));
        Check.same("30: most", 2, book.raise(0, 0, 1000));
        for (int wrong : new int[] {0, 1001, -1, Integer.MIN_VALUE, Integer.MAX_VALUE}) {
            Check.fails("30: " + wrong, ARGUMENT, () -> book.raise(0, 0, wrong));
        }
        book.lower(0, 0, 1);
        Check.same("30: four, a lowering one too", 4, book.raise(0, 0, 1));
        Check.same("30: five", 5, book.raise(0, 0, 1));
        Check.same("30: six", 6, book.raise(0, 0, 1));
        Check.fails("30: a seventh", STATE, () -> book.raise(0, 0, 1));
        Check.fails("30: the range comes before the number", ARGUMENT, () -> book.raise(0, 0, 1001));
        Check.same("30: another risk", 1, book.raise(1, 0, 1));
        Check.fails("30: no risk", NO_INDEX, () -> book.raise(2, 0, 1));
        Check.fails("30: no wish", NO_INDEX, () -> book.raise(1, 1, 1));
        Check.fails("30: risk below 0", NO_INDEX, () -> book.raise(-1, 0, 1));
        Check.fails("30: wish below 0", NO_INDEX, () -> book.raise(1, -1, 1));
        Check.fails("30: no risk comes before the range", NO_INDEX, () -> book.raise(2, 0, 0));
        Check.fails("30: no wish comes before the range", NO_INDEX, () -> book.raise(1, 1, 0));
        Check.fails("30: no wish comes before the number", NO_INDEX, () -> book.raise(0, 1, 1));
    }

    private static void chanceLowered() {
        SpecBoard book = Books.withAccepted(2);
        book.addRelease(9);
        book.addRelease(9);
        book.addRisk(999, 1);
        book.addRisk(1000, 1);
        book.lower(0, 0, 33);
        book.lower(1, 0, 100);
        Check.same("31: accepted", 999, book.chance(0));
        book.plan(0, 0);
        Check.same("31: planned", 999, book.chance(0));
        Books.passedTest(book, 0, 0);
        book.ship(0);
        Check.same("31: shipped, rounded down", 669, book.chance(0));
        Check.same("31: by all of it", 0, book.chance(1));
        book.lower(0, 1, 50);
        Check.same("31: the other is not shipped", 669, book.chance(0));
        book.drop(1);
        Check.same("31: a dropped one does not lower", 669, book.chance(0));
        book.lower(0, 0, 1);
        Check.same("31: an effect that comes after shipping", 662, book.chance(0));
        Check.fails("31: no risk", NO_INDEX, () -> book.chance(2));
        Check.fails("31: below 0", NO_INDEX, () -> book.chance(-1));
    }

    private static void chanceRaised() {
        SpecBoard book = Books.withAccepted(2);
        book.addRelease(9);
        book.addRisk(300, 1);
        book.addRisk(300, 1);
        book.addRisk(300, 1);
        book.raise(0, 0, 700);
        book.raise(1, 0, 701);
        book.raise(2, 1, 5);
        Check.same("31: not dropped", 300, book.chance(0));
        book.drop(0);
        Check.same("31: dropped", 1000, book.chance(0));
        Check.same("31: up to 1000", 1000, book.chance(1));
        Books.ship(book, 1, 0);
        Check.same("31: a shipped one does not raise", 300, book.chance(2));
    }

    private static void chanceInOrder() {
        SpecBoard book = Books.withAccepted(2);
        book.addRelease(9);
        book.addRisk(900, 1);
        book.addRisk(900, 1);
        book.lower(0, 0, 50);
        book.raise(0, 1, 300);
        book.lower(0, 0, 50);
        book.raise(1, 1, 300);
        book.lower(1, 0, 50);
        book.drop(1);
        Books.ship(book, 0, 0);
        Check.same("31: lower, raise, lower", 375, book.chance(0));
        Check.same("31: raise up to 1000, lower", 500, book.chance(1));
    }

    private static void exposure() {
        SpecBoard book = Books.withAccepted(2);
        book.addRelease(9);
        Check.same("32: no risks", 0L, book.exposure());
        book.addRisk(333, 1000);
        Check.same("32: one", 333L, book.exposure());
        book.addRisk(999, 1);
        Check.same("32: rounded down", 333L, book.exposure());
        book.addRisk(999, 1);
        Check.same("32: each on its own", 333L, book.exposure());
        book.addRisk(1000, 9999);
        Check.same("32: the most", 10332L, book.exposure());
        book.lower(3, 0, 50);
        book.raise(0, 1, 100);
        Books.ship(book, 0, 0);
        Check.same("32: lowered", 333L + 4999L, book.exposure());
        book.drop(1);
        Check.same("32: raised", 433L + 4999L, book.exposure());
    }

    private static void changeByDropping() {
        SpecBoard book = Books.withWishes(5);
        book.addRelease(9);
        book.addRisk(300, 5000);
        book.addRisk(950, 1000);
        book.raise(0, 0, 100);
        book.raise(1, 0, 100);
        book.lower(0, 0, 50);
        book.raise(0, 2, 10);
        Check.same("33: a new wish", 550L, book.changeByDropping(0));
        Check.same("33: nothing was dropped", 'n', book.state(0));
        Check.same("33: without effects", 0L, book.changeByDropping(1));
        book.accept(0);
        book.plan(0, 0);
        Check.same("33: a planned wish", 550L, book.changeByDropping(0));
        Check.same("33: it stays planned", 0, book.releaseOf(0));
        book.accept(3);
        Check.same("33: an accepted wish", 0L, book.changeByDropping(3));
        book.drop(2);
        Check.same("33: after another drop", 550L, book.changeByDropping(0));
        long before = book.exposure();
        book.drop(0);
        Check.same("33: as told", 550L, book.exposure() - before);
        Check.fails("33: dropped", STATE, () -> book.changeByDropping(0));
        Books.ship(book, 3, 0);
        Check.fails("33: shipped", STATE, () -> book.changeByDropping(3));
        Check.fails("33: no wish", NO_INDEX, () -> book.changeByDropping(5));
        Check.fails("33: below 0", NO_INDEX, () -> book.changeByDropping(-1));
    }
}
