import java.util.NoSuchElementException;

/** Promises 34 to 42: baselines, open ends, the line and figures. */
final class FigureTest {
    private static final Class<IndexOutOfBoundsException> NO_INDEX = IndexOutOfBoundsException.class;
    private static final Class<IllegalArgumentException> ARGUMENT = IllegalArgumentException.class;
    private static final Class<IllegalStateException> STATE = IllegalStateException.class;
    private static final Class<NoSuchElementException> NO_ELEMENT = NoSuchElementException.class;
    private static final Class<ArithmeticException> ARITHMETIC = ArithmeticException.class;

    public static void main(String[] args) {
        makeBaseline();
        differences();
        noSuchBaseline();
        openWishes();
        openTestsAndRisks();
        noSuchOpenEnd();
        writeWish();
        lineAt();
        meanChance();
        coveredShare();
        Check.end();
    }

    private static void makeBaseline() {
        SpecBoard book = new SpecBoard();
        for (int i = 0; i < 5; i++) {
            Check.same("34: number", i, book.makeBaseline());
        }
        Check.fails("34: a sixth", STATE, book::makeBaseline);
        SpecBoard kept = Books.withWishes(1);
        kept.makeBaseline();
        kept.accept(0);
        kept.makeBaseline();
        Check.same("34: it keeps what was", 1, kept.differences(0, 1));
    }

    private static void differences() {
        SpecBoard book = Books.withAccepted(4);
        book.addRelease(9);
        book.addRelease(9);
        book.makeBaseline();
        Check.same("35: with itself", 0, book.differences(0, 0));
        book.plan(0, 0);
        book.plan(1, 0);
        book.makeBaseline();
        Check.same("35: states and releases", 2, book.differences(0, 1));
        book.unplan(1);
        book.plan(1, 1);
        book.makeBaseline();
        Check.same("35: only the release", 1, book.differences(1, 2));
        book.refine(2, 1);
        book.refine(3, 0);
        book.makeBaseline();
        Check.same("35: only the parents", 2, book.differences(3, 2));
        Books.wish(book, "e", 1, 1);
        Books.wish(book, "f", 1, 1);
        book.drop(0);
        book.makeBaseline();
        Check.same("35: new wishes and a dropped one", 3, book.differences(3, 4));
        Check.same("35: the other way", 3, book.differences(4, 3));
        Check.same("35: from the first", 6, book.differences(0, 4));
        SpecBoard empty = new SpecBoard();
        empty.makeBaseline();
        Books.wish(empty, "a", 1, 1);
        empty.makeBaseline();
        empty.need(0, Books.wish(empty, "b", 1, 1));
        empty.makeBaseline();
        empty.exclude(0, 1);
        Books.wish(empty, "c", 1, 1);
        empty.refine(0, 2);
        empty.drop(2);
        empty.makeBaseline();
        Check.same("35: from an empty book", 1, empty.differences(0, 1));
        Check.same("35: a need does not count", 1, empty.differences(1, 2));
        Check.same("35: nor do exclusions", 2, empty.differences(2, 3));
    }

    private static void noSuchBaseline() {
        SpecBoard book = new SpecBoard();
        book.makeBaseline();
        int[][] wrong = {{1, 0}, {0, 1}, {-1, 0}, {0, -1}, {Integer.MAX_VALUE, Integer.MIN_VALUE}};
        for (int[] pair : wrong) {
            Check.fails("35: " + pair[0] + ", " + pair[1], NO_INDEX, () -> book.differences(pair[0], pair[1]));
        }
    }

    private static void openWishes() {
        SpecBoard book = Books.withWishes(7);
        book.addRelease(9);
        Check.same("36: new ones are no open ends", 0, book.openEnds('w'));
        for (int i = 1; i < 7; i++) {
            book.accept(i);
        }
        book.plan(2, 0);
        book.drop(3);
        Check.same("36: accepted and planned", 5, book.openEnds('w'));
        Check.same("37: the first", 1, book.openAt('w', 0));
        Check.same("37: the third", 4, book.openAt('w', 2));
        Check.same("37: the last", 6, book.openAt('w', 4));
        book.cover(book.addTest(), 1);
        Check.same("36: covered by a test without result", 4, book.openEnds('w'));
        book.refine(0, 4);
        Check.same("36: has a child", 3, book.openEnds('w'));
        Check.same("37: the first now", 2, book.openAt('w', 0));
        Check.same("37: the second now", 5, book.openAt('w', 1));
        book.drop(0);
        Check.same("36: its child is dropped", 4, book.openEnds('w'));
        book.cover(0, 2);
        book.result(0, 0, 'p');
        book.ship(0);
        Check.same("36: shipped", 3, book.openEnds('w'));
        SpecBoard first = Books.withAccepted(2);
        first.refine(1, 0);
        Check.same("36: the first wish has a child", 1, first.openEnds('w'));
        Check.same("37: the second has none", 1, first.openAt('w', 0));
    }

    private static void openTestsAndRisks() {
        SpecBoard book = Books.withWishes(2);
        Check.same("36: no tests", 0, book.openEnds('t'));
        Check.same("36: no risks", 0, book.openEnds('r'));
        for (int i = 0; i < 3; i++) {
            book.addTest();
            book.addRisk(1, 1);
        }
        Check.same("36: three tests", 3, book.openEnds('t'));
        Check.same("36: three risks", 3, book.openEnds('r'));
        book.cover(0, 1);
        book.lower(1, 0, 1);
        Check.same("36: two tests", 2, book.openEnds('t'));
        Check.same("37: the first test", 1, book.openAt('t', 0));
        Check.same("37: the last test", 2, book.openAt('t', 1));
        Check.same("36: two risks", 2, book.openEnds('r'));
        Check.same("37: the first risk", 0, book.openAt('r', 0));
        Check.same("37: the last risk", 2, book.openAt('r', 1));
        book.raise(0, 0, 1);
        Check.same("36: a raising effect", 1, book.openEnds('r'));
    }

    private static void noSuchOpenEnd() {
        SpecBoard book = Books.withAccepted(1);
        book.addTest();
        book.addRisk(1, 1);
        for (char kind : new char[] {'w', 't', 'r'}) {
            Check.same("37: the only one", 0, book.openAt(kind, 0));
            for (int wrong : new int[] {1, -1, 16, Integer.MIN_VALUE, Integer.MAX_VALUE}) {
                Check.fails("37: " + kind + wrong, NO_ELEMENT, () -> book.openAt(kind, wrong));
            }
        }
        for (char wrong : new char[] {'W', 'x', 'a', ' ', (char) 0}) {
            Check.fails("36: " + (int) wrong, ARGUMENT, () -> book.openEnds(wrong));
            Check.fails("37: " + (int) wrong, ARGUMENT, () -> book.openAt(wrong, 0));
            Check.fails("37: the kind comes before the index", ARGUMENT, () -> book.openAt(wrong, -1));
        }
    }

    private static void line(String due, SpecBoard book, int wish) {
        Check.same("38: the length of " + due, due.length(), book.writeWish(wish));
        Check.same("38: the line", due, Books.lineOf(book, due.length()));
        Check.fails("39: behind " + due, NO_INDEX, () -> book.lineAt(due.length()));
    }

    private static void writeWish() {
        SpecBoard book = new SpecBoard();
        Books.wish(book, "house", 1, 1);
        Books.wish(book, "door", 1, 1);
        for (int i = 0; i < 6; i++) {
            book.addRelease(9);
        }
        line("door: new", book, 1);
        book.accept(1);
        line("door: accepted", book, 1);
        book.plan(1, 2);
        line("door: planned for 2", book, 1);
        book.refine(1, 0);
        line("door: planned for 2, refines house", book, 1);
        line("house: new", book, 0);
        book.drop(0);
        line("house: dropped", book, 0);
        line("door: planned for 2, refines house", book, 1);
        book.unplan(1);
        line("door: accepted, refines house", book, 1);
        Books.ship(book, 1, 5);
        line("door: shipped with 5, refines house", book, 1);
        Books.wish(book, "abcdefgh", 1, 1);
        book.accept(2);
        book.plan(2, 0);
        book.refine(2, 1);
        line("abcdefgh: planned for 0, refines door", book, 2);
        book.drop(2);
        line("abcdefgh: dropped, refines door", book, 2);
        Check.fails("38: no wish", NO_INDEX, () -> book.writeWish(3));
        Check.fails("38: below 0", NO_INDEX, () -> book.writeWish(-1));
        Check.same("38: the line before stays", "abcdefgh", Books.lineOf(book, 8));
    }

    private static void lineAt() {
        SpecBoard book = Books.withWishes(1);
        Check.fails("39: empty at first", NO_INDEX, () -> book.lineAt(0));
        book.writeWish(0);
        Check.same("39: the first", 'a', book.lineAt(0));
        Check.same("39: the second", ':', book.lineAt(1));
        Check.same("39: the third", ' ', book.lineAt(2));
        Check.same("39: the last", 'w', book.lineAt(5));
        book.accept(0);
        Check.same("39: the line does not change by itself", 'n', book.lineAt(3));
        for (int wrong : new int[] {6, -1, Integer.MIN_VALUE, Integer.MAX_VALUE}) {
            Check.fails("39: " + wrong, NO_INDEX, () -> book.lineAt(wrong));
        }
    }

    private static void meanChance() {
        SpecBoard book = Books.withAccepted(1);
        Check.fails("40: no risks", ARITHMETIC, book::meanChance);
        book.addRisk(0, 1);
        Check.same("40: zero", 0.0, book.meanChance());
        book.addRisk(1, 1);
        Check.same("40: half", 0.5, book.meanChance());
        book.addRisk(1000, 1);
        Check.same("40: a third", 1001.0 / 3.0, book.meanChance());
        book.raise(0, 0, 500);
        book.drop(0);
        Check.same("40: the present chances", 1501.0 / 3.0, book.meanChance());
    }

    private static void coveredShare() {
        SpecBoard book = Books.withAccepted(4);
        book.addRelease(9);
        book.addRelease(9);
        Check.fails("41: no wishes", ARITHMETIC, () -> book.coveredShare(0));
        Check.fails("41: no release", NO_INDEX, () -> book.coveredShare(2));
        Check.fails("41: below 0", NO_INDEX, () -> book.coveredShare(-1));
        book.plan(0, 0);
        book.plan(1, 0);
        book.plan(2, 0);
        Check.same("41: none", 0.0f, book.coveredShare(0));
        Books.passedTest(book, 0, 0);
        Check.same("41: one of three", 1.0f / 3.0f, book.coveredShare(0));
        Books.passedTest(book, 3, 0);
        Check.same("41: another's coverage does not count", 1.0f / 3.0f, book.coveredShare(0));
        Books.passedTest(book, 1, 1);
        Check.same("41: nor does another release's", 1.0f / 3.0f, book.coveredShare(0));
        book.refine(3, 2);
        Check.same("41: by a child", 2.0f / 3.0f, book.coveredShare(0));
        book.drop(1);
        Check.same("41: all", 1.0f, book.coveredShare(0));
        book.ship(0);
        Check.same("41: shipped", 1.0f, book.coveredShare(0));
        book.refine(1, 0);
        book.drop(3);
        Check.same("41: shipped, one not covered any more", 0.5f, book.coveredShare(0));
        Check.fails("41: the other has none", ARITHMETIC, () -> book.coveredShare(1));
    }
}
