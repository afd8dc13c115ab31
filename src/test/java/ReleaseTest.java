import java.util.NoSuchElementException;

/** Promises 19 to 27: the releases. */
final class ReleaseTest {
    private static final Class<IndexOutOfBoundsException> NO_INDEX = IndexOutOfBoundsException.class;
    private static final Class<IllegalArgumentException> ARGUMENT = IllegalArgumentException.class;
    private static final Class<IllegalStateException> STATE = IllegalStateException.class;
    private static final Class<NoSuchElementException> NO_ELEMENT = NoSuchElementException.class;
    private static final Class<UnsupportedOperationException> UNSUPPORTED = UnsupportedOperationException.class;

    public static void main(String[] args) {
        addRelease();
        plan();
        planOfEachState();
        unplan();
        releaseOf();
        left();
        reasonAgainst();
        reasonsInTheirOrder();
        reasonsByShippedWishes();
        ship();
        bestValue();
        bestValueWithNeeds();
        bestValueWithExclusions();
        bestValueEachAlone();
        bestValueOfSixteen();
        noSuchRelease();
        Check.end();
    }

    private static void addRelease() {
        SpecBoard book = new SpecBoard();
        for (int wrong : new int[] {0, -1, 501, Integer.MIN_VALUE, Integer.MAX_VALUE}) {
            Check.fails("19: " + wrong, ARGUMENT, () -> book.addRelease(wrong));
        }
        Check.same("19: least", 0, book.addRelease(1));
        Check.same("19: most", 1, book.addRelease(500));
        for (int i = 2; i < 6; i++) {
            Check.same("19: number", i, book.addRelease(9));
        }
        Check.fails("19: a seventh", STATE, () -> book.addRelease(9));
        Check.fails("19: the capacity comes before the number", ARGUMENT, () -> book.addRelease(0));
        Check.same("19: the capacity is kept", 500, book.left(1));
    }

    private static void plan() {
        SpecBoard book = new SpecBoard();
        Books.wish(book, "a", 4, 1);
        Books.wish(book, "b", 6, 1);
        Books.wish(book, "c", 7, 1);
        book.addRelease(10);
        book.accept(0);
        book.accept(1);
        book.accept(2);
        Check.same("20: left", 6, book.plan(0, 0));
        Check.fails("20: too dear", UNSUPPORTED, () -> book.plan(2, 0));
        Check.same("20: it stays accepted", 'a', book.state(2));
        Check.same("20: just fits", 0, book.plan(1, 0));
        Check.same("20: is planned", 'p', book.state(1));
        Check.same("20: for the release", 0, book.releaseOf(1));
        Check.fails("20: no wish", NO_INDEX, () -> book.plan(3, 0));
        Check.fails("20: no release", NO_INDEX, () -> book.plan(2, 1));
        Check.fails("20: wish below 0", NO_INDEX, () -> book.plan(-1, 0));
        Check.fails("20: release below 0", NO_INDEX, () -> book.plan(2, -1));
    }

    private static void planOfEachState() {
        SpecBoard book = new SpecBoard();
        for (int i = 0; i < 5; i++) {
            Books.wish(book, "" + (char) ('a' + i), 20, 1);
        }
        book.addRelease(20);
        book.addRelease(30);
        book.addRelease(5);
        book.accept(1);
        book.accept(2);
        book.accept(3);
        book.plan(2, 1);
        book.drop(4);
        Books.ship(book, 3, 0);
        Check.fails("20: new", STATE, () -> book.plan(0, 1));
        Check.fails("20: planned for it", STATE, () -> book.plan(2, 1));
        Check.fails("20: planned for another", STATE, () -> book.plan(2, 2));
        Check.fails("20: shipped", STATE, () -> book.plan(3, 1));
        Check.fails("20: dropped", STATE, () -> book.plan(4, 1));
        Check.fails("20: new comes before too dear", STATE, () -> book.plan(0, 2));
        Check.fails("20: a shipped release comes before too dear", STATE, () -> book.plan(1, 0));
        Check.fails("20: too dear", UNSUPPORTED, () -> book.plan(1, 2));
        Check.fails("20: no release comes before new", NO_INDEX, () -> book.plan(0, 3));
    }

    private static void unplan() {
        SpecBoard book = Books.withAccepted(3);
        book.addRelease(9);
        book.addRelease(9);
        book.plan(0, 1);
        Check.same("21: its release", 1, book.unplan(0));
        Check.same("21: accepted again", 'a', book.state(0));
        Check.same("21: the capacity is free", 9, book.left(1));
        Check.fails("21: no release any more", NO_ELEMENT, () -> book.releaseOf(0));
        Check.fails("21: not planned", STATE, () -> book.unplan(0));
        Check.same("21: can be planned again", 8, book.plan(0, 0));
        Books.passedTest(book, 0, 0);
        book.ship(0);
        Check.fails("21: shipped", STATE, () -> book.unplan(0));
        book.drop(1);
        Check.fails("21: dropped", STATE, () -> book.unplan(1));
        Check.fails("21: no wish", NO_INDEX, () -> book.unplan(3));
        Check.fails("21: below 0", NO_INDEX, () -> book.unplan(-1));
    }

    private static void releaseOf() {
        SpecBoard book = Books.withWishes(2);
        book.addRelease(9);
        book.addRelease(9);
        Check.fails("22: new", NO_ELEMENT, () -> book.releaseOf(0));
        book.accept(0);
        Check.fails("22: accepted", NO_ELEMENT, () -> book.releaseOf(0));
        book.plan(0, 1);
        Check.same("22: planned", 1, book.releaseOf(0));
        Books.passedTest(book, 0, 1);
        book.ship(1);
        Check.same("22: shipped", 1, book.releaseOf(0));
        book.accept(1);
        book.plan(1, 0);
        book.drop(1);
        Check.fails("22: dropped", NO_ELEMENT, () -> book.releaseOf(1));
        Check.fails("22: no wish", NO_INDEX, () -> book.releaseOf(2));
        Check.fails("22: below 0", NO_INDEX, () -> book.releaseOf(-1));
    }

    private static void left() {
        SpecBoard book = new SpecBoard();
        Books.wish(book, "a", 3, 1);
        Books.wish(book, "b", 50, 1);
        book.addRelease(60);
        book.addRelease(7);
        book.accept(0);
        book.accept(1);
        Check.same("23: all", 60, book.left(0));
        book.plan(0, 0);
        book.plan(1, 0);
        Check.same("23: without two", 7, book.left(0));
        Check.same("23: another", 7, book.left(1));
        book.drop(1);
        Check.same("23: without one", 57, book.left(0));
        Books.passedTest(book, 0, 0);
        book.ship(0);
        Check.same("23: shipped ones count", 57, book.left(0));
    }

    private static void reasonAgainst() {
        SpecBoard book = Books.withAccepted(4);
        book.addRelease(9);
        book.addRelease(9);
        Check.same("24: nothing planned", 'e', book.reasonAgainst(0));
        book.plan(0, 0);
        Check.same("24: not covered", 't', book.reasonAgainst(0));
        Books.passedTest(book, 0, 0);
        Check.same("24: none", '-', book.reasonAgainst(0));
        book.need(0, 1);
        Check.same("24: a need", 'd', book.reasonAgainst(0));
        book.plan(1, 1);
        Check.same("24: a need that another release has", 'd', book.reasonAgainst(0));
        book.unplan(1);
        book.plan(1, 0);
        Check.same("24: the need is planned, not covered", 't', book.reasonAgainst(0));
        Books.passedTest(book, 1, 0);
        Check.same("24: and covered", '-', book.reasonAgainst(0));
        book.exclude(2, 0);
        Check.same("24: one that is not planned does not clash", '-', book.reasonAgainst(0));
        book.plan(2, 1);
        Check.same("24: one of another release does not clash", '-', book.reasonAgainst(0));
        book.unplan(2);
        book.plan(2, 0);
        Check.same("24: a clash", 'c', book.reasonAgainst(0));
        book.drop(2);
        Check.same("24: the clash is dropped", '-', book.reasonAgainst(0));
        book.need(0, 3);
        book.drop(3);
        Check.same("24: a dropped need", 'd', book.reasonAgainst(0));
        SpecBoard clash = Books.withAccepted(2);
        clash.addRelease(9);
        clash.addRelease(9);
        Books.ship(clash, 1, 0);
        clash.plan(0, 1);
        Books.passedTest(clash, 0, 1);
        Check.same("24: no clash", '-', clash.reasonAgainst(1));
        clash.exclude(1, 0);
        Check.same("24: a clash of the first wish", 'c', clash.reasonAgainst(1));
    }

    private static void reasonsInTheirOrder() {
        SpecBoard book = Books.withAccepted(3);
        book.addRelease(9);
        book.plan(0, 0);
        book.plan(1, 0);
        book.exclude(0, 1);
        book.need(1, 2);
        Check.same("24: d, c and t", 'd', book.reasonAgainst(0));
        book.plan(2, 0);
        Check.same("24: c and t", 'c', book.reasonAgainst(0));
        book.drop(0);
        Check.same("24: t", 't', book.reasonAgainst(0));
        Books.passedTest(book, 1, 0);
        Books.passedTest(book, 2, 0);
        book.ship(0);
        Check.same("24: s", 's', book.reasonAgainst(0));
        book.addRelease(9);
        Check.same("24: e", 'e', book.reasonAgainst(1));
    }

    private static void reasonsByShippedWishes() {
        SpecBoard book = Books.withAccepted(3);
        book.addRelease(9);
        book.addRelease(9);
        Books.ship(book, 0, 0);
        book.plan(1, 1);
        Books.passedTest(book, 1, 1);
        book.need(1, 0);
        Check.same("24: the need is shipped", '-', book.reasonAgainst(1));
        book.exclude(1, 0);
        Check.same("24: a clash with a shipped one", 'c', book.reasonAgainst(1));
        book.unplan(1);
        book.plan(2, 1);
        Books.passedTest(book, 2, 1);
        book.need(0, Books.wish(book, "z", 1, 1));
        Check.same("24: what a shipped one needs does not matter", '-', book.reasonAgainst(1));
    }

    private static void ship() {
        SpecBoard book = Books.withAccepted(3);
        book.addRelease(9);
        book.addRelease(9);
        Check.fails("25: nothing planned", UNSUPPORTED, () -> book.ship(0));
        book.plan(0, 0);
        book.plan(1, 0);
        book.plan(2, 1);
        Check.fails("25: not covered", UNSUPPORTED, () -> book.ship(0));
        Check.same("25: still planned", 'p', book.state(0));
        Books.passedTest(book, 0, 0);
        Books.passedTest(book, 1, 0);
        Check.same("25: two", 2, book.ship(0));
        Check.same("25: shipped", 's', book.state(0));
        Check.same("25: shipped", 's', book.state(1));
        Check.same("25: the other release's", 'p', book.state(2));
        Check.same("25: the other release", 't', book.reasonAgainst(1));
        Check.fails("25: again", UNSUPPORTED, () -> book.ship(0));
        book.exclude(2, 0);
        Books.passedTest(book, 2, 1);
        Check.fails("25: a clash", UNSUPPORTED, () -> book.ship(1));
    }

    /** Looks at both ways of finding the best value. */
    private static void best(String what, int due, SpecBoard book, int release) {
        Check.same("26: " + what, due, book.bestValue(release));
        Check.same("27: " + what, due, book.bestValueByTrying(release));
    }

    private static void bestValue() {
        SpecBoard book = new SpecBoard();
        book.addRelease(10);
        best("no wishes", 0, book, 0);
        Books.wish(book, "a", 6, 60);
        Books.wish(book, "b", 5, 45);
        Books.wish(book, "c", 5, 40);
        Books.wish(book, "d", 11, 99);
        best("none accepted", 0, book, 0);
        book.accept(0);
        best("one", 60, book, 0);
        book.accept(1);
        best("the better one", 60, book, 0);
        book.accept(2);
        best("two that just fit", 85, book, 0);
        book.accept(3);
        best("too dear", 85, book, 0);
        book.plan(1, 0);
        best("beside a planned one", 40, book, 0);
        book.drop(2);
        best("too little is left", 0, book, 0);
        book.unplan(1);
        Books.ship(book, 0, 0);
        Check.fails("26: shipped", STATE, () -> book.bestValue(0));
        Check.fails("27: shipped", STATE, () -> book.bestValueByTrying(0));
        book.addRelease(500);
        best("another release", 144, book, 1);
        Check.same("26: nothing is planned by it", 500, book.left(1));
    }

    private static void bestValueWithNeeds() {
        SpecBoard book = new SpecBoard();
        Books.wish(book, "a", 1, 90);
        Books.wish(book, "b", 5, 0);
        Books.wish(book, "c", 5, 50);
        Books.wish(book, "d", 4, 7);
        for (int i = 0; i < 4; i++) {
            book.accept(i);
        }
        book.addRelease(6);
        book.addRelease(6);
        best("free", 140, book, 0);
        book.need(0, 1);
        best("with a needed one without value", 90, book, 0);
        book.plan(1, 1);
        best("the needed one is in another release", 50, book, 0);
        best("the needed one is planned", 90, book, 1);
        Books.passedTest(book, 1, 1);
        book.ship(1);
        best("the needed one is shipped", 140, book, 0);
        book.need(2, 3);
        best("a pair that does not fit", 97, book, 0);
        book.need(3, 0);
        best("a chain", 97, book, 0);
        book.drop(0);
        best("the end of the chain is dropped", 0, book, 0);
        SpecBoard far = Books.withAccepted(4);
        far.addRelease(9);
        far.need(0, 2);
        best("a need some places on", 4, far, 0);
        far.need(3, 0);
        best("and one some places back", 4, far, 0);
        SpecBoard planned = Books.withAccepted(3);
        planned.addRelease(9);
        planned.need(0, 1);
        planned.plan(0, 0);
        best("a planned one's need need not be in the set", 2, planned, 0);
        planned.drop(1);
        best("even if it is dropped", 1, planned, 0);
    }

    private static void bestValueWithExclusions() {
        SpecBoard book = new SpecBoard();
        Books.wish(book, "a", 1, 10);
        Books.wish(book, "b", 1, 20);
        Books.wish(book, "c", 1, 25);
        Books.wish(book, "d", 1, 3);
        for (int i = 0; i < 4; i++) {
            book.accept(i);
        }
        book.addRelease(9);
        book.addRelease(9);
        book.exclude(2, 0);
        best("one of two", 48, book, 0);
        book.exclude(1, 2);
        best("two of three", 33, book, 0);
        book.plan(2, 0);
        best("a planned one excludes two", 3, book, 0);
        best("but not in another release", 33, book, 1);
        Books.passedTest(book, 2, 0);
        book.ship(0);
        best("a shipped one excludes them everywhere", 3, book, 1);
        book.exclude(3, 0);
        best("an exclusion among the excluded", 3, book, 1);
        book.need(3, 1);
        best("needs one that is excluded", 0, book, 1);
    }

    private static void bestValueEachAlone() {
        SpecBoard book = Books.withAccepted(3);
        book.addRelease(2);
        Check.same("26: alone", 2, book.bestValue(0));
        book.drop(0);
        book.drop(1);
        Check.same("27: after a change", 1, book.bestValueByTrying(0));
        book.drop(2);
        Check.same("26: after a change", 0, book.bestValue(0));
        SpecBoard other = Books.withAccepted(3);
        other.addRelease(2);
        Check.same("27: alone", 2, other.bestValueByTrying(0));
    }

    private static void bestValueOfSixteen() {
        SpecBoard book = new SpecBoard();
        int all = 0;
        for (int i = 0; i < 16; i++) {
            Books.wish(book, "" + (char) ('a' + i), 2 * i + 1, 3 * i + 5);
            book.accept(i);
            all += 3 * i + 5;
        }
        book.addRelease(256);
        book.addRelease(255);
        best("all", all, book, 0);
        best("all but the least", all - 5, book, 1);
        for (int i = 0; i < 15; i++) {
            book.need(i, i + 1);
        }
        best("a chain of needs", all, book, 0);
        best("a chain of needs without its head", all - 5, book, 1);
    }

    private static void noSuchRelease() {
        SpecBoard book = new SpecBoard();
        book.addRelease(1);
        for (int wrong : new int[] {1, -1, Integer.MIN_VALUE, Integer.MAX_VALUE}) {
            Check.fails("23: " + wrong, NO_INDEX, () -> book.left(wrong));
            Check.fails("24: " + wrong, NO_INDEX, () -> book.reasonAgainst(wrong));
            Check.fails("25: " + wrong, NO_INDEX, () -> book.ship(wrong));
            Check.fails("26: " + wrong, NO_INDEX, () -> book.bestValue(wrong));
            Check.fails("27: " + wrong, NO_INDEX, () -> book.bestValueByTrying(wrong));
        }
    }
}
