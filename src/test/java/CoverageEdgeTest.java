/** The edges of promises 13 to 18, sentence by sentence: tests, results and coverage. */
final class CoverageEdgeTest {
    private static final Class<IndexOutOfBoundsException> NO_INDEX = IndexOutOfBoundsException.class;
    private static final Class<IllegalArgumentException> ARGUMENT = IllegalArgumentException.class;
    private static final Class<IllegalStateException> STATE = IllegalStateException.class;

    private static final String RESULTS = "pf-";

    public static void main(String[] args) {
        addTest();
        coverCounts();
        coverRefused();
        resultAtFirst();
        resultBefore();
        resultOtherCharacters();
        resultShipped();
        resultFirstListed();
        passedCounts();
        passedOfEach();
        coveredByOneOfSixteen();
        coveredByNoChild();
        coveredByOneChild();
        coveredByFifteenChildren();
        coveredByLevels();
        coveredByDroppedLevels();
        askingChangesNothing();
        Check.end();
    }

    // ---- 13: addTest

    /** "Adds a test that covers nothing."; "if there are 16 tests". */
    private static void addTest() {
        SpecBoard book = Books.withWishes(1);
        for (int i = 0; i < 16; i++) {
            Check.same("13: number", i, book.addTest());
            Check.same("13: covers nothing", i + 1, book.openEnds('t'));
        }
        Check.same("13: the sixteenth is the last", 15, book.openAt('t', 15));
        Check.same("13: and can cover", 1, book.cover(15, 0));
        Check.fails("13: a seventeenth", STATE, book::addTest);
        Refusal.of("13: a seventeenth", STATE, Books::fullTyping, SpecBoard::addTest);
        Refusal.of("13: a seventeenth, no wishes", STATE, CoverageEdgeTest::sixteenTests, SpecBoard::addTest);
    }

    private static SpecBoard sixteenTests() {
        SpecBoard book = new SpecBoard();
        for (int i = 0; i < 16; i++) {
            book.addTest();
        }
        return book;
    }

    // ---- 14: cover

    /** "the number of wishes that the test covers afterwards": from 1 to 16. */
    private static void coverCounts() {
        SpecBoard book = Books.withWishes(16);
        for (int i = 0; i < 16; i++) {
            book.addTest();
        }
        for (int i = 0; i < 16; i++) {
            Check.same("14: the first test, wish " + i, i + 1, book.cover(0, i));
            Check.same("14: the last test, wish " + (15 - i), i + 1, book.cover(15, 15 - i));
        }
        for (int i = 1; i < 15; i++) {
            Check.same("14: test " + i, 1, book.cover(i, 15 - i));
        }
        SpecBoard busy = Books.busy();
        Check.same("14: a shipped wish", 1, busy.cover(2, Books.SHIPPED));
        Check.same("14: a dropped wish", 2, busy.cover(2, Books.DROPPED));
        Check.same("14: a new wish", 3, busy.cover(2, Books.NEW));
    }

    /** "if it covers this wish already": also with a result, and for a shipped release. */
    private static void coverRefused() {
        Refusal.of("14: again, failed", STATE, Books::busyTyping, b -> b.cover(1, Books.PLANNED));
        Refusal.of("14: again, passed and shipped", STATE, Books::busyTyping, b -> b.cover(0, Books.SHIPPED));
        Refusal.of("14: again, full", STATE, Books::fullTyping, b -> b.cover(0, Books.SHIPPED));
        int[] all = {0, 1, 7, 14, 15};
        Refusal.ofEach("14: each again", STATE, CoverageEdgeTest::oneTestOfAll, all, (b, n) -> b.cover(0, n));
        Refusal.of("14: neither test nor wish", NO_INDEX, Books::fullTyping, b -> b.cover(16, 16));
        Refusal.of("14: neither test nor wish, none", NO_INDEX, SpecBoard::new, b -> b.cover(0, 0));
    }

    private static SpecBoard oneTestOfAll() {
        SpecBoard book = Books.withWishes(16);
        book.addTest();
        book.addRelease(500);
        for (int i = 0; i < 16; i++) {
            book.cover(0, i);
        }
        book.result(0, 0, 'p');
        return book;
    }

    // ---- 15: result

    /** "has no result '-', which is so at first": whichever came first, test or release. */
    private static void resultAtFirst() {
        SpecBoard testsFirst = sixteenTests();
        SpecBoard releasesFirst = new SpecBoard();
        for (int i = 0; i < 6; i++) {
            testsFirst.addRelease(1);
            releasesFirst.addRelease(1);
        }
        for (int i = 0; i < 16; i++) {
            releasesFirst.addTest();
            for (int j = 0; j < 6; j++) {
                Check.same("15: at first, " + i + " " + j, '-', testsFirst.result(i, j, 'p'));
                Check.same("15: at first, " + i + " " + j, '-', releasesFirst.result(i, j, 'f'));
            }
        }
        for (int i = 0; i < 16; i++) {
            for (int j = 0; j < 6; j++) {
                Check.same("15: each is kept, " + i + " " + j, 'p', testsFirst.result(i, j, '-'));
                Check.same("15: each is kept, " + i + " " + j, 'f', releasesFirst.result(i, j, 'p'));
            }
        }
    }

    /** "Returns the previous result.": each of the nine changes. */
    private static void resultBefore() {
        for (char before : RESULTS.toCharArray()) {
            for (char after : RESULTS.toCharArray()) {
                SpecBoard book = oneTestOfAll();
                book.result(0, 0, before);
                Check.same("15: " + before + " to " + after, before, book.result(0, 0, after));
                Check.same("15: passed once or not", after == 'p' ? 1 : 0, book.passed(15, 0));
                Check.same("15: and then", after, book.result(0, 0, '-'));
            }
        }
    }

    /** "if there is no such result": all the other characters there are. */
    private static void resultOtherCharacters() {
        Edges.allOtherCharacters("15: result", RESULTS, ARGUMENT, CoverageEdgeTest::oneTestOfAll,
            (b, c) -> b.result(0, 0, c));
        int[] some = {0, ' ', ',', '.', 'e', 'g', 'o', 'q', 'P', 'F', 'p' + 256, 'f' + 256, '-' + 256, 0x8000 + 'p', 65535};
        Refusal.ofEach("15: no result", ARGUMENT, CoverageEdgeTest::oneTestOfAll, some,
            (b, n) -> b.result(0, 0, (char) n));
        Refusal.ofEach("15: no result, some", ARGUMENT, Books::busyTyping, some,
            (b, n) -> b.result(1, Books.OPEN, (char) n));
    }

    /** "if the release was shipped": whatever the result was and would be. */
    private static void resultShipped() {
        for (int test = 0; test < 3; test++) {
            int of = test;
            Refusal.ofEach("15: shipped, test " + test, STATE, Books::busyTyping, new int[] {'p', 'f', '-'},
                (b, n) -> b.result(of, Books.GONE, (char) n));
        }
        Refusal.ofEach("15: shipped, full", STATE, Books::fullTyping, new int[] {0, 1, 14, 15},
            (b, n) -> b.result(n, Books.GONE, 'p'));
        SpecBoard book = Books.busy();
        Check.same("15: a test that came later", 3, book.addTest());
        Check.fails("15: a test that came later", STATE, () -> book.result(3, Books.GONE, '-'));
        Check.same("15: another release is open", 'f', book.result(1, Books.OPEN, 'p'));
    }

    /** "the exception that is listed first": a wrong character comes before a shipped release. */
    private static void resultFirstListed() {
        Refusal.ofEach("15: no result before shipped", ARGUMENT, Books::busyTyping, new int[] {0, 'x', 'P', 65535},
            (b, n) -> b.result(0, Books.GONE, (char) n));
        Refusal.of("15: neither test nor release", NO_INDEX, Books::fullTyping, b -> b.result(16, 6, 'p'));
        Refusal.of("15: neither test, nor release, nor result", NO_INDEX, SpecBoard::new, b -> b.result(0, 0, 'x'));
    }

    // ---- 16: passed

    /** "how many tests that cover a wish have passed for a release": from 0 to 16 and back. */
    private static void passedCounts() {
        SpecBoard book = Books.withWishes(2);
        book.addRelease(1);
        for (int i = 0; i < 16; i++) {
            Check.same("16: up to now", i, book.passed(1, 0));
            book.addTest();
            book.cover(i, 1);
            Check.same("16: without a result", i, book.passed(1, 0));
            book.result(i, 0, i % 2 == 0 ? 'f' : '-');
            Check.same("16: not passed", i, book.passed(1, 0));
            book.result(i, 0, 'p');
        }
        for (int i = 16; i > 0; i--) {
            Check.same("16: all " + i, i, book.passed(1, 0));
            book.result(i - 1, 0, i % 2 == 0 ? 'f' : '-');
        }
        Check.same("16: none any more", 0, book.passed(1, 0));
        Check.same("16: none of the other wish", 0, book.passed(0, 0));
    }

    /** Each wish and each release has a number of its own. */
    private static void passedOfEach() {
        SpecBoard book = Books.withWishes(16);
        for (int i = 0; i < 6; i++) {
            book.addRelease(1);
        }
        for (int i = 0; i < 16; i++) {
            book.addTest();
            book.cover(i, i);
            book.result(i, i % 6, 'p');
        }
        for (int i = 0; i < 16; i++) {
            for (int j = 0; j < 6; j++) {
                Check.same("16: " + i + " " + j, i % 6 == j ? 1 : 0, book.passed(i, j));
            }
        }
        Check.same("16: a shipped release's", 1, Books.busy().passed(Books.SHIPPED, Books.GONE));
        SpecBoard late = Books.busy();
        late.cover(0, Books.DROPPED);
        Check.same("16: linked after shipping", 1, late.passed(Books.DROPPED, Books.GONE));
    }

    // ---- 17 and 18: isCovered, isCoveredFromLinks

    private static void covered(String what, boolean due, SpecBoard book, int wish, int release) {
        Check.same("17: " + what, due, book.isCovered(wish, release));
        Check.same("18: " + what, due, book.isCoveredFromLinks(wish, release));
    }

    /** "if a test that covers it has passed for this release": one of sixteen is enough, none is not. */
    private static void coveredByOneOfSixteen() {
        for (int one : new int[] {0, 7, 15}) {
            SpecBoard book = Books.withWishes(16);
            book.addRelease(1);
            book.addRelease(1);
            for (int i = 0; i < 16; i++) {
                book.addTest();
                book.cover(i, 15);
                book.result(i, 0, 'f');
            }
            covered("all failed", false, book, 15, 0);
            book.result(one, 0, 'p');
            covered("one passed", true, book, 15, 0);
            covered("another wish", false, book, 14, 0);
            covered("another release", false, book, 15, 1);
            book.result(one, 0, '-');
            covered("no result any more", false, book, 15, 0);
        }
        SpecBoard other = Books.withWishes(2);
        other.addRelease(1);
        Books.passedTest(other, 1, 0);
        covered("the other's test", false, other, 0, 0);
        Check.same("17: the other's test comes to cover it", 2, other.cover(0, 0));
        covered("by a link after the result", true, other, 0, 0);
    }

    /** "if it has children that are not dropped": none at all, or dropped ones alone, are not enough. */
    private static void coveredByNoChild() {
        SpecBoard book = Books.withWishes(16);
        book.addRelease(1);
        covered("no child, no test", false, book, 0, 0);
        for (int i = 1; i < 16; i++) {
            book.refine(i, 0);
            Books.passedTest(book, i, 0);
        }
        for (int i = 1; i < 16; i++) {
            covered("by those left", true, book, 0, 0);
            book.drop(i);
        }
        covered("all dropped", false, book, 0, 0);
        covered("a dropped one by its test", true, book, 15, 0);
    }

    /** "and all these children are covered in this release": the only one, or the only one left. */
    private static void coveredByOneChild() {
        SpecBoard book = Books.withWishes(3);
        book.addRelease(1);
        book.addRelease(1);
        book.refine(2, 0);
        covered("the only child is not", false, book, 0, 0);
        int test = Books.passedTest(book, 2, 0);
        covered("the only child is", true, book, 0, 0);
        covered("but not in the other release", false, book, 0, 1);
        book.refine(1, 0);
        covered("one more child", false, book, 0, 0);
        book.drop(1);
        covered("one more child, dropped", true, book, 0, 0);
        book.result(test, 0, 'f');
        covered("the one left failed", false, book, 0, 0);
        book.drop(0);
        book.result(test, 0, 'p');
        covered("a dropped parent", true, book, 0, 0);
        SpecBoard parent = Books.withWishes(2);
        parent.addRelease(1);
        parent.refine(1, 0);
        Books.passedTest(parent, 0, 0);
        covered("its own test, the child has none", true, parent, 0, 0);
        covered("the child is not covered by its parent", false, parent, 1, 0);
    }

    private static void coveredByFifteenChildren() {
        for (int last : new int[] {0, 1, 14}) {
            SpecBoard book = Books.withWishes(16);
            book.addRelease(1);
            for (int i = 0; i < 15; i++) {
                book.refine(i, 15);
                if (i != last) {
                    Books.passedTest(book, i, 0);
                }
            }
            covered("all but " + last, false, book, 15, 0);
            Books.passedTest(book, last, 0);
            covered("all fifteen", true, book, 15, 0);
        }
    }

    /** Children of children: sixteen levels, numbered upwards, downwards and across. */
    private static void coveredByLevels() {
        int[][] orders = {new int[16], new int[16], new int[16]};
        for (int i = 0; i < 16; i++) {
            orders[0][i] = i;
            orders[1][i] = 15 - i;
            orders[2][i] = i * 7 % 16;
        }
        for (int[] order : orders) {
            SpecBoard book = Books.withWishes(16);
            book.addRelease(1);
            for (int i = 1; i < 16; i++) {
                book.refine(order[i], order[i - 1]);
            }
            covered("sixteen levels, no test", false, book, order[0], 0);
            int test = Books.passedTest(book, order[15], 0);
            for (int wish : order) {
                covered("sixteen levels, the last is covered", true, book, wish, 0);
            }
            book.result(test, 0, 'f');
            covered("sixteen levels, the last failed", false, book, order[0], 0);
            Books.passedTest(book, order[8], 0);
            covered("eight levels down", true, book, order[0], 0);
            covered("above the covered one", true, book, order[7], 0);
            covered("below the covered one", false, book, order[9], 0);
        }
    }

    private static void coveredByDroppedLevels() {
        SpecBoard book = Books.withWishes(4);
        book.addRelease(1);
        book.refine(1, 0);
        book.refine(2, 1);
        book.refine(3, 0);
        Books.passedTest(book, 2, 0);
        Books.passedTest(book, 3, 0);
        covered("both branches", true, book, 0, 0);
        book.drop(2);
        covered("a branch whose child is dropped", false, book, 1, 0);
        covered("and what is above it", false, book, 0, 0);
        book.drop(1);
        covered("the branch is dropped", true, book, 0, 0);
        book.drop(3);
        covered("both are dropped", false, book, 0, 0);
    }

    private static void askingChangesNothing() {
        Refusal.none("16: asking", Books::busyTyping, b -> b.passed(Books.SHIPPED, Books.GONE));
        Refusal.none("17: asking", Books::busyTyping, b -> b.isCovered(Books.ACCEPTED, Books.OPEN));
        Refusal.none("18: asking", Books::busyTyping, b -> b.isCoveredFromLinks(Books.ACCEPTED, Books.OPEN));
    }
}
