/** Promises 13 to 18: tests, results and coverage. */
final class CoverageTest {
    private static final Class<IndexOutOfBoundsException> NO_INDEX = IndexOutOfBoundsException.class;
    private static final Class<IllegalArgumentException> ARGUMENT = IllegalArgumentException.class;
    private static final Class<IllegalStateException> STATE = IllegalStateException.class;

    public static void main(String[] args) {
        addTest();
        cover();
        result();
        resultOfAShippedRelease();
        passed();
        coveredByTests();
        coveredByChildren();
        coveredThroughManyLevels();
        coveredAfterShipping();
        noSuchCoverage();
        Check.end();
    }

    private static void addTest() {
        SpecBoard book = new SpecBoard();
        for (int i = 0; i < 16; i++) {
            Check.same("13: number", i, book.addTest());
        }
        Check.fails("13: a seventeenth", STATE, book::addTest);
        Check.same("13: they cover nothing", 16, book.openEnds('t'));
    }

    private static void cover() {
        SpecBoard book = Books.withWishes(3);
        book.addTest();
        book.addTest();
        Check.same("14: one", 1, book.cover(0, 2));
        Check.same("14: two", 2, book.cover(0, 0));
        Check.same("14: another test", 1, book.cover(1, 0));
        Check.fails("14: again", STATE, () -> book.cover(0, 2));
        Check.fails("14: no test", NO_INDEX, () -> book.cover(2, 0));
        Check.fails("14: no wish", NO_INDEX, () -> book.cover(0, 3));
        Check.fails("14: test below 0", NO_INDEX, () -> book.cover(-1, 0));
        Check.fails("14: wish below 0", NO_INDEX, () -> book.cover(0, -1));
        Check.same("14: the refused were not counted", 3, book.cover(0, 1));
    }

    private static void result() {
        SpecBoard book = Books.withWishes(1);
        book.addTest();
        book.addRelease(1);
        book.addRelease(1);
        Check.same("15: at first", '-', book.result(0, 0, 'p'));
        Check.same("15: before", 'p', book.result(0, 0, 'f'));
        Check.same("15: before", 'f', book.result(0, 0, 'f'));
        Check.same("15: before", 'f', book.result(0, 0, '-'));
        Check.same("15: before", '-', book.result(0, 0, '-'));
        Check.same("15: another release", '-', book.result(0, 1, 'p'));
        Check.same("15: the last release of six", '-', lastOfSix(book));
        Check.fails("15: no result", ARGUMENT, () -> book.result(0, 0, 'x'));
        Check.fails("15: no capital", ARGUMENT, () -> book.result(0, 0, 'P'));
        Check.fails("15: no test", NO_INDEX, () -> book.result(1, 0, 'p'));
        Check.fails("15: no release", NO_INDEX, () -> book.result(0, 6, 'p'));
        Check.fails("15: test below 0", NO_INDEX, () -> book.result(-1, 0, 'p'));
        Check.fails("15: release below 0", NO_INDEX, () -> book.result(0, -1, 'p'));
        Check.fails("15: no test comes before no result", NO_INDEX, () -> book.result(1, 0, 'x'));
        Check.same("15: the refused changed nothing", '-', book.result(0, 0, 'p'));
    }

    private static char lastOfSix(SpecBoard book) {
        for (int i = 2; i < 6; i++) {
            book.addRelease(1);
        }
        return book.result(0, 5, 'p');
    }

    private static void resultOfAShippedRelease() {
        SpecBoard book = Books.withAccepted(1);
        book.addRelease(1);
        Books.ship(book, 0, 0);
        Check.fails("15: shipped", STATE, () -> book.result(0, 0, 'f'));
        Check.fails("15: shipped, the same result", STATE, () -> book.result(0, 0, 'p'));
        Check.fails("15: no result comes before shipped", ARGUMENT, () -> book.result(0, 0, 'x'));
        Check.fails("15: no test comes before shipped", NO_INDEX, () -> book.result(1, 0, 'f'));
        Check.same("15: it has still passed", 1, book.passed(0, 0));
    }

    private static void passed() {
        SpecBoard book = Books.withWishes(2);
        book.addRelease(1);
        book.addRelease(1);
        Check.same("16: none", 0, book.passed(0, 0));
        Books.passedTest(book, 0, 0);
        int second = Books.passedTest(book, 0, 0);
        Check.same("16: two", 2, book.passed(0, 0));
        Check.same("16: not the other wish", 0, book.passed(1, 0));
        Check.same("16: not the other release", 0, book.passed(0, 1));
        book.result(second, 0, 'p');
        Check.same("16: passed twice counts once", 2, book.passed(0, 0));
        book.cover(second, 1);
        Check.same("16: covered after it passed", 1, book.passed(1, 0));
        book.result(second, 0, 'f');
        Check.same("16: failed", 1, book.passed(0, 0));
        Check.same("16: failed, the other wish", 0, book.passed(1, 0));
        book.result(second, 0, '-');
        Check.same("16: failed to no result", 1, book.passed(0, 0));
        book.result(second, 0, 'p');
        book.result(second, 0, '-');
        Check.same("16: passed to no result", 1, book.passed(0, 0));
        int third = book.addTest();
        book.result(third, 1, 'f');
        book.cover(third, 0);
        Check.same("16: covered after it failed", 0, book.passed(0, 1));
        book.drop(0);
        Check.same("16: a dropped wish", 1, book.passed(0, 0));
        Books.wish(book, "new", 1, 1);
        Check.same("16: a later wish", 0, book.passed(2, 0));
        book.addRelease(1);
        Check.same("16: a later release", 0, book.passed(0, 2));
        Check.fails("16: no wish", NO_INDEX, () -> book.passed(3, 0));
        Check.fails("16: no release", NO_INDEX, () -> book.passed(0, 3));
        Check.fails("16: wish below 0", NO_INDEX, () -> book.passed(-1, 0));
        Check.fails("16: release below 0", NO_INDEX, () -> book.passed(0, -1));
    }

    /** Looks at both ways of computing the coverage. */
    private static void covered(String what, boolean due, SpecBoard book, int wish, int release) {
        Check.same("17: " + what, due, book.isCovered(wish, release));
        Check.same("18: " + what, due, book.isCoveredFromLinks(wish, release));
    }

    private static void coveredByTests() {
        SpecBoard book = Books.withWishes(2);
        book.addRelease(1);
        book.addRelease(1);
        covered("nothing covers it", false, book, 0, 0);
        int test = book.addTest();
        book.cover(test, 0);
        covered("no result", false, book, 0, 0);
        book.result(test, 0, 'f');
        covered("failed", false, book, 0, 0);
        book.result(test, 0, 'p');
        covered("passed", true, book, 0, 0);
        covered("passed for another release", false, book, 0, 1);
        covered("another wish", false, book, 1, 0);
        book.result(book.addTest(), 1, 'p');
        covered("a test that covers nothing", false, book, 0, 1);
        int failing = book.addTest();
        book.cover(failing, 0);
        book.result(failing, 0, 'f');
        covered("one passed, one failed", true, book, 0, 0);
        book.drop(0);
        covered("a dropped wish", true, book, 0, 0);
        book.result(test, 0, '-');
        covered("no result any more", false, book, 0, 0);
    }

    private static void coveredByChildren() {
        SpecBoard book = Books.withWishes(4);
        book.addRelease(1);
        book.addRelease(1);
        book.refine(1, 0);
        book.refine(2, 0);
        covered("no child is covered", false, book, 0, 0);
        int first = Books.passedTest(book, 1, 0);
        covered("one of two", false, book, 0, 0);
        Books.passedTest(book, 2, 0);
        covered("all children", true, book, 0, 0);
        covered("all children, another release", false, book, 0, 1);
        book.result(first, 0, 'f');
        covered("one failed", false, book, 0, 0);
        book.drop(1);
        covered("the failed one is dropped", true, book, 0, 0);
        book.drop(2);
        covered("all are dropped", false, book, 0, 0);
        book.refine(3, 0);
        covered("a child that is not covered", false, book, 0, 0);
        Books.passedTest(book, 0, 0);
        covered("its own test is enough", true, book, 0, 0);
        covered("not by a covered parent", false, book, 3, 0);
    }

    private static void coveredThroughManyLevels() {
        SpecBoard up = Books.withWishes(16);
        SpecBoard down = Books.withWishes(16);
        up.addRelease(1);
        down.addRelease(1);
        for (int i = 0; i < 15; i++) {
            up.refine(i, i + 1);
            down.refine(i + 1, i);
        }
        covered("a chain", false, up, 15, 0);
        Books.passedTest(up, 0, 0);
        Books.passedTest(down, 15, 0);
        covered("a chain up", true, up, 15, 0);
        covered("a chain down", true, down, 0, 0);
        up.drop(7);
        covered("a chain with a dropped link", false, up, 15, 0);
        covered("a dropped link itself", true, up, 7, 0);
    }

    private static void coveredAfterShipping() {
        SpecBoard book = Books.withAccepted(3);
        book.addRelease(9);
        book.refine(1, 0);
        Books.passedTest(book, 1, 0);
        book.plan(0, 0);
        book.ship(0);
        covered("shipped", true, book, 0, 0);
        book.refine(2, 0);
        covered("a child that came after shipping", false, book, 0, 0);
        book.cover(0, 2);
        covered("which an old test covers now", true, book, 0, 0);
        Check.same("16: kept for a shipped release too", 1, book.passed(2, 0));
    }

    private static void noSuchCoverage() {
        SpecBoard book = Books.withWishes(1);
        book.addRelease(1);
        int[][] wrong = {{1, 0}, {0, 1}, {-1, 0}, {0, -1}, {Integer.MAX_VALUE, 0}, {32, 0}};
        for (int[] pair : wrong) {
            String what = pair[0] + ", " + pair[1];
            Check.fails("17: " + what, NO_INDEX, () -> book.isCovered(pair[0], pair[1]));
            Check.fails("18: " + what, NO_INDEX, () -> book.isCoveredFromLinks(pair[0], pair[1]));
        }
    }
}
