/** The edges of promises 28 to 33, sentence by sentence: the risks. */
final class RiskEdgeTest {
    private static final Class<IllegalArgumentException> ARGUMENT = IllegalArgumentException.class;
    private static final Class<IllegalStateException> STATE = IllegalStateException.class;

    private static final int[] CHANCES = {0, 1, 2, 99, 500, 999, 1000, 101};

    public static void main(String[] args) {
        addRiskChances();
        addRiskHarms();
        addRiskEight();
        lowerPercentages();
        raiseThousandths();
        effectsOfEachState();
        effectsSix();
        effectsFirstListed();
        chanceLowered();
        chanceRaised();
        chanceOnlyOfShippedOrDropped();
        chanceInOrder();
        exposureRounded();
        exposureOfEight();
        changeByDropping();
        changeByDroppingIsWhatDroppingChanges();
        changeByDroppingRefused();
        askingChangesNothing();
        Check.end();
    }

    // ---- 28: addRisk

    /** "if a number is out of range": the first chance, from 0 to 1000. */
    private static void addRiskChances() {
        SpecBoard book = new SpecBoard();
        for (int i = 0; i < 8; i++) {
            Check.same("28: chance " + CHANCES[i], i, book.addRisk(CHANCES[i], 0));
            Check.same("28: is kept", CHANCES[i], book.chance(i));
        }
        int[] wrong = Edges.outside(0, 1000);
        Refusal.ofEach("28: chance", ARGUMENT, SpecBoard::new, wrong, (b, n) -> b.addRisk(n, 0));
        Refusal.ofEach("28: chance, some", ARGUMENT, Books::busyTyping, wrong, (b, n) -> b.addRisk(n, 9999));
        Refusal.ofEach("28: chance and harm", ARGUMENT, Books::busyTyping, wrong, (b, n) -> b.addRisk(n, -1));
        Refusal.ofEach("28: chance before room", ARGUMENT, Books::fullTyping, wrong, (b, n) -> b.addRisk(n, 0));
    }

    /** "if a number is out of range": the harm, from 0 to 9999. */
    private static void addRiskHarms() {
        int[] harms = {0, 1, 2, 4999, 5000, 9997, 9998, 9999};
        SpecBoard book = new SpecBoard();
        long sum = 0;
        for (int i = 0; i < 8; i++) {
            Check.same("28: harm " + harms[i], i, book.addRisk(1000, harms[i]));
            sum += harms[i];
            Check.same("28: is kept", sum, book.exposure());
        }
        int[] wrong = Edges.outside(0, 9999);
        Refusal.ofEach("28: harm", ARGUMENT, SpecBoard::new, wrong, (b, n) -> b.addRisk(0, n));
        Refusal.ofEach("28: harm, some", ARGUMENT, Books::busyTyping, wrong, (b, n) -> b.addRisk(1000, n));
        Refusal.ofEach("28: harm and chance", ARGUMENT, Books::busyTyping, wrong, (b, n) -> b.addRisk(1001, n));
        Refusal.ofEach("28: harm before room", ARGUMENT, Books::fullTyping, wrong, (b, n) -> b.addRisk(0, n));
    }

    /** "Adds a risk without effects."; "if there are 8 risks". */
    private static void addRiskEight() {
        SpecBoard book = new SpecBoard();
        for (int i = 0; i < 8; i++) {
            Check.same("28: number", i, book.addRisk(0, 0));
            Check.same("28: without effects", i + 1, book.openEnds('r'));
        }
        Check.fails("28: a ninth", STATE, () -> book.addRisk(0, 0));
        Refusal.ofEach("28: a ninth", STATE, Books::fullTyping, new int[] {0, 1, 999, 1000},
            (b, n) -> b.addRisk(n, n * 9));
        Refusal.of("28: a ninth, no wishes", STATE, RiskEdgeTest::eightRisks, b -> b.addRisk(1000, 9999));
        Refusal.of("28: out of range before a ninth", ARGUMENT, RiskEdgeTest::eightRisks, b -> b.addRisk(1001, 10000));
    }

    private static SpecBoard eightRisks() {
        SpecBoard book = new SpecBoard();
        for (int i = 0; i < 8; i++) {
            book.addRisk(i, i);
        }
        return book;
    }

    // ---- 29 and 30: lower, raise

    /** "the percentage, 1 to 100". */
    private static void lowerPercentages() {
        int[] right = {1, 2, 50, 98, 99, 100};
        SpecBoard book = Books.withWishes(16);
        book.addRisk(1000, 1);
        for (int i = 0; i < 6; i++) {
            Check.same("29: " + right[i], i + 1, book.lower(0, 15, right[i]));
        }
        int[] wrong = Edges.outside(1, 100);
        Refusal.ofEach("29: percentage", ARGUMENT, Books::busyTyping, wrong, (b, n) -> b.lower(1, 0, n));
        Refusal.ofEach("29: percentage, shipped", ARGUMENT, Books::busyTyping, wrong,
            (b, n) -> b.lower(0, Books.SHIPPED, n));
        Refusal.ofEach("29: percentage before room", ARGUMENT, Books::fullTyping, wrong,
            (b, n) -> b.lower(7, 15, n));
    }

    /** "the thousandths, 1 to 1000". */
    private static void raiseThousandths() {
        int[] right = {1, 2, 101, 500, 999, 1000};
        SpecBoard book = Books.withWishes(16);
        book.addRisk(1000, 1);
        for (int i = 0; i < 6; i++) {
            Check.same("30: " + right[i], i + 1, book.raise(0, 15, right[i]));
        }
        int[] wrong = Edges.outside(1, 1000);
        Refusal.ofEach("30: thousandths", ARGUMENT, Books::busyTyping, wrong, (b, n) -> b.raise(1, 0, n));
        Refusal.ofEach("30: thousandths, dropped", ARGUMENT, Books::busyTyping, wrong,
            (b, n) -> b.raise(0, Books.DROPPED, n));
        Refusal.ofEach("30: thousandths before room", ARGUMENT, Books::fullTyping, wrong,
            (b, n) -> b.raise(7, 15, n));
    }

    /** An effect can be of a wish in any state. */
    private static void effectsOfEachState() {
        SpecBoard lowered = Books.busy();
        SpecBoard raised = Books.busy();
        for (int i = 0; i < 6; i++) {
            Check.same("29: wish " + i, i + 1, lowered.lower(1, i, 1));
            Check.same("30: wish " + i, i + 1, raised.raise(1, i, 1));
        }
        Check.same("29: rounded down", 0, lowered.chance(1));
        Check.same("30: only the dropped one", 2, raised.chance(1));
    }

    /** A risk with this many lowering effects and this many raising ones, all of wish 0. */
    private static SpecBoard withEffects(int lowering, int raising) {
        SpecBoard book = Books.withWishes(1);
        book.addRisk(500, 1000);
        book.addRisk(500, 1000);
        for (int i = 0; i < lowering; i++) {
            book.lower(0, 0, 1 + i);
        }
        for (int i = 0; i < raising; i++) {
            book.raise(0, 0, 1 + i);
        }
        return book;
    }

    /** "if the risk has 6 effects", of both kinds together; each risk has its own. */
    private static void effectsSix() {
        for (int i = 0; i <= 6; i++) {
            int lowering = i;
            Refusal.Recipe six = () -> withEffects(lowering, 6 - lowering);
            Refusal.of("29: a seventh", STATE, six, b -> b.lower(0, 0, 100));
            Refusal.of("30: a seventh", STATE, six, b -> b.raise(0, 0, 1000));
            Check.same("29: the other risk's first", 1, six.make().lower(1, 0, 100));
            Check.same("30: the other risk's first", 1, six.make().raise(1, 0, 1000));
        }
        for (int i = 0; i <= 5; i++) {
            Check.same("29: the sixth", 6, withEffects(i, 5 - i).lower(0, 0, 1));
            Check.same("30: the sixth", 6, withEffects(i, 5 - i).raise(0, 0, 1));
        }
        int[] all = {0, 1, 6, 7};
        Refusal.ofEach("29: a seventh, full", STATE, Books::fullTyping, all, (b, n) -> b.lower(n, n, 1));
        Refusal.ofEach("30: a seventh, full", STATE, Books::fullTyping, all, (b, n) -> b.raise(n, n, 1));
    }

    /** "the exception that is listed first": the range comes before the number of effects. */
    private static void effectsFirstListed() {
        Refusal.Recipe six = () -> withEffects(3, 3);
        Refusal.ofEach("29: the range before a seventh", ARGUMENT, six, Edges.outside(1, 100),
            (b, n) -> b.lower(0, 0, n));
        Refusal.ofEach("30: the range before a seventh", ARGUMENT, six, Edges.outside(1, 1000),
            (b, n) -> b.raise(0, 0, n));
        Class<IndexOutOfBoundsException> noIndex = IndexOutOfBoundsException.class;
        Refusal.of("29: neither risk nor wish", noIndex, Books::fullTyping, b -> b.lower(8, 16, 1));
        Refusal.of("30: neither risk nor wish", noIndex, Books::fullTyping, b -> b.raise(8, 16, 1));
        Refusal.of("29: no wish before a seventh", noIndex, six, b -> b.lower(0, 1, 1));
        Refusal.of("30: no wish before a seventh", noIndex, six, b -> b.raise(0, 1, 1));
        Refusal.of("29: no wish before both", noIndex, six, b -> b.lower(0, 1, 101));
        Refusal.of("30: no wish before both", noIndex, six, b -> b.raise(0, 1, 1001));
    }

    // ---- 31: chance

    /** A book whose wish 0 is shipped, whose wish 1 is dropped and whose wish 2 is planned. */
    private static SpecBoard shippedAndDropped() {
        SpecBoard book = Books.withAccepted(3);
        book.addRelease(1);
        book.addRelease(1);
        Books.ship(book, 0, 0);
        book.drop(1);
        book.plan(2, 1);
        return book;
    }

    /** "multiplies it by (100 minus its percentage), divides it by 100 and rounds it down". */
    private static void chanceLowered() {
        for (int percentage = 1; percentage <= 100; percentage++) {
            SpecBoard book = shippedAndDropped();
            for (int i = 0; i < 8; i++) {
                book.addRisk(CHANCES[i], 1);
                book.lower(i, 0, percentage);
                int due = (CHANCES[i] * (100 - percentage) - CHANCES[i] * (100 - percentage) % 100) / 100;
                Check.same("31: " + CHANCES[i] + " by " + percentage, due, book.chance(i));
            }
        }
        SpecBoard book = shippedAndDropped();
        book.addRisk(1, 1);
        book.lower(0, 0, 1);
        Check.same("31: 1 by 1 per cent", 0, book.chance(0));
        book.addRisk(1000, 1);
        for (int i = 0; i < 6; i++) {
            book.lower(1, 0, 1);
        }
        Check.same("31: 1000 by 1 per cent, six times, rounded each time", 940, book.chance(1));
    }

    /** "adds its thousandths to it, up to 1000". */
    private static void chanceRaised() {
        for (int thousandths : new int[] {1, 2, 499, 500, 501, 901, 902, 999, 1000}) {
            SpecBoard book = shippedAndDropped();
            for (int i = 0; i < 8; i++) {
                book.addRisk(CHANCES[i], 1);
                book.raise(i, 1, thousandths);
                int sum = CHANCES[i] + thousandths;
                Check.same("31: " + CHANCES[i] + " and " + thousandths, sum > 1000 ? 1000 : sum, book.chance(i));
            }
        }
        SpecBoard book = shippedAndDropped();
        book.addRisk(1000, 1);
        for (int i = 0; i < 6; i++) {
            book.raise(0, 1, 1000);
            Check.same("31: no higher", 1000, book.chance(0));
        }
    }

    /** "a lowering one, if its wish is shipped", "a raising one, if its wish is dropped". */
    private static void chanceOnlyOfShippedOrDropped() {
        String states = "napsd";
        for (int i = 0; i < 5; i++) {
            SpecBoard book = Books.busy();
            book.lower(1, i, 100);
            Check.same("31: lowered by one in state " + states.charAt(i), i == Books.SHIPPED ? 0 : 1, book.chance(1));
            SpecBoard other = Books.busy();
            other.raise(1, i, 999);
            Check.same("31: raised by one in state " + states.charAt(i), i == Books.DROPPED ? 1000 : 1, other.chance(1));
        }
    }

    /** "in the order in which they were added": the limit and the rounding act at each step. */
    private static void chanceInOrder() {
        SpecBoard book = shippedAndDropped();
        book.addRisk(999, 1);
        book.raise(0, 1, 2);
        book.lower(0, 0, 100);
        book.raise(0, 1, 7);
        book.lower(0, 0, 50);
        Check.same("31: 999, 1000, 0, 7, 3", 3, book.chance(0));
        book.lower(0, 0, 34);
        book.raise(0, 1, 998);
        Check.same("31: 1, 999", 999, book.chance(0));
        book.addRisk(999, 1);
        book.lower(1, 0, 50);
        book.raise(1, 1, 502);
        Check.same("31: 499, 1000", 1000, book.chance(1));
        book.addRisk(999, 1);
        book.raise(2, 1, 502);
        book.lower(2, 0, 50);
        Check.same("31: 1000, 500", 500, book.chance(2));
        book.addRisk(0, 1);
        book.lower(3, 0, 100);
        book.raise(3, 1, 1);
        Check.same("31: 0, 1", 1, book.chance(3));
    }

    // ---- 32: exposure

    /** "its chance multiplied by its harm, divided by 1000 and rounded down", each on its own. */
    private static void exposureRounded() {
        int[][] due = {{0, 0, 0}, {0, 9999, 0}, {1000, 0, 0}, {1, 999, 0}, {1, 1000, 1}, {1, 1001, 1}, {999, 1, 0},
            {1000, 1, 1}, {999, 2, 1}, {1, 9999, 9}, {999, 9999, 9989}, {1000, 9999, 9999}, {333, 1000, 333}};
        for (int[] row : due) {
            SpecBoard book = new SpecBoard();
            book.addRisk(row[0], row[1]);
            Check.same("32: " + row[0] + " of " + row[1], (long) row[2], book.exposure());
            book.addRisk(row[0], row[1]);
            Check.same("32: twice", 2L * row[2], book.exposure());
        }
    }

    /** "the sum of the exposures of all risks": of none, and of eight. */
    private static void exposureOfEight() {
        SpecBoard book = new SpecBoard();
        Check.same("32: none", 0L, book.exposure());
        for (int i = 1; i <= 8; i++) {
            book.addRisk(1000, 9999);
            Check.same("32: of " + i, 9999L * i, book.exposure());
        }
        SpecBoard small = new SpecBoard();
        for (int i = 0; i < 8; i++) {
            small.addRisk(999, 1);
        }
        Check.same("32: eight that are rounded down", 0L, small.exposure());
    }

    // ---- 33: changeByDropping

    /** "Returns the sum afterwards minus the present one.": from nothing to eight whole risks. */
    private static void changeByDropping() {
        SpecBoard book = Books.withWishes(16);
        Check.same("33: no risks", 0L, book.changeByDropping(15));
        for (int i = 0; i < 8; i++) {
            book.addRisk(0, 9999);
            book.raise(i, 15, 1000);
            Check.same("33: risks " + i, 9999L * (i + 1), book.changeByDropping(15));
            Check.same("33: another wish", 0L, book.changeByDropping(14));
        }
        SpecBoard limit = Books.withWishes(2);
        limit.addRisk(999, 9999);
        limit.raise(0, 0, 1000);
        Check.same("33: up to 1000", 10L, limit.changeByDropping(0));
        limit.drop(0);
        limit.raise(0, 1, 1000);
        Check.same("33: no higher", 0L, limit.changeByDropping(1));
        SpecBoard twice = Books.withWishes(1);
        twice.addRisk(0, 1000);
        twice.raise(0, 0, 1);
        twice.raise(0, 0, 2);
        Check.same("33: two effects of one wish", 3L, twice.changeByDropping(0));
        SpecBoard rounded = Books.withWishes(1);
        rounded.addRisk(0, 999);
        rounded.raise(0, 0, 1);
        Check.same("33: rounded down", 0L, rounded.changeByDropping(0));
        SpecBoard lowered = shippedAndDropped();
        lowered.addRisk(0, 1000);
        lowered.raise(0, 2, 999);
        lowered.lower(0, 0, 50);
        Check.same("33: lowered behind it", 499L, lowered.changeByDropping(2));
    }

    private static void changeByDroppingIsWhatDroppingChanges() {
        for (int i : new int[] {Books.NEW, Books.ACCEPTED, Books.PLANNED, 5, 15}) {
            SpecBoard book = Books.full();
            long told = book.changeByDropping(i);
            long before = book.exposure();
            book.drop(i);
            Check.same("33: wish " + i, book.exposure() - before, told);
        }
    }

    /** "if it is shipped or dropped". */
    private static void changeByDroppingRefused() {
        int[] both = {Books.SHIPPED, Books.DROPPED};
        Refusal.ofEach("33: shipped or dropped", STATE, Books::busyTyping, both, SpecBoard::changeByDropping);
        Refusal.ofEach("33: shipped or dropped, full", STATE, Books::fullTyping, both, SpecBoard::changeByDropping);
    }

    private static void askingChangesNothing() {
        Refusal.none("31: asking", Books::busyTyping, b -> b.chance(0));
        Refusal.none("32: asking", Books::busyTyping, SpecBoard::exposure);
        Refusal.none("33: asking, a planned wish", Books::busyTyping, b -> b.changeByDropping(Books.PLANNED));
        Refusal.none("33: asking, a new wish", Books::fullTyping, b -> b.changeByDropping(Books.NEW));
    }
}
