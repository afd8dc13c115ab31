import java.util.NoSuchElementException;

/** The edges of promises 19 to 27, sentence by sentence: the releases. */
final class ReleaseEdgeTest {
    private static final Class<IllegalArgumentException> ARGUMENT = IllegalArgumentException.class;
    private static final Class<IllegalStateException> STATE = IllegalStateException.class;
    private static final Class<NoSuchElementException> NO_ELEMENT = NoSuchElementException.class;
    private static final Class<UnsupportedOperationException> UNSUPPORTED = UnsupportedOperationException.class;

    public static void main(String[] args) {
        addReleaseCapacities();
        addReleaseSix();
        planJustFits();
        planTooDear();
        planOfShippedCosts();
        planRefusedStates();
        planFirstListed();
        unplan();
        unplanRefused();
        releaseOf();
        releaseOfNone();
        left();
        reasonsAlone();
        reasonsTogether();
        reasonEmpty();
        reasonNeeds();
        reasonClashes();
        reasonUncovered();
        shipCounts();
        shipRefused();
        shipLeavesTheOthers();
        bestOfTheEmptySet();
        bestThatJustFits();
        bestOfEachState();
        bestWithNeeds();
        bestWithExclusions();
        bestOfSixteen();
        bestWithFarNeeds();
        bestRefused();
        askingChangesNothing();
        Check.end();
    }

    // ---- 19: addRelease

    /** "if the capacity is out of range": from 1 to 500. */
    private static void addReleaseCapacities() {
        SpecBoard book = new SpecBoard();
        int[] capacities = {1, 2, 255, 256, 499, 500};
        for (int i = 0; i < 6; i++) {
            Check.same("19: capacity " + capacities[i], i, book.addRelease(capacities[i]));
            Check.same("19: is kept", capacities[i], book.left(i));
        }
        int[] wrong = Edges.outside(1, 500);
        Refusal.ofEach("19: capacity", ARGUMENT, SpecBoard::new, wrong, SpecBoard::addRelease);
        Refusal.ofEach("19: capacity, some", ARGUMENT, Books::busyTyping, wrong, SpecBoard::addRelease);
        Refusal.ofEach("19: capacity before room", ARGUMENT, Books::fullTyping, wrong, SpecBoard::addRelease);
    }

    /** "if there are 6 releases": shipped ones are releases too. */
    private static void addReleaseSix() {
        SpecBoard book = new SpecBoard();
        for (int i = 0; i < 6; i++) {
            Check.same("19: number", i, book.addRelease(500));
        }
        int[] right = {1, 2, 499, 500};
        Refusal.ofEach("19: a seventh", STATE, Books::fullTyping, right, SpecBoard::addRelease);
        Refusal.ofEach("19: a seventh, all shipped", STATE, ReleaseEdgeTest::sixShipped, right, SpecBoard::addRelease);
    }

    private static SpecBoard sixShipped() {
        SpecBoard book = Books.withAccepted(6);
        for (int i = 0; i < 6; i++) {
            book.addRelease(1);
            Books.ship(book, i, i);
        }
        return book;
    }

    // ---- 20: plan

    /** A release with so much capacity, and an accepted wish of each of the costs. */
    private static SpecBoard priced(int capacity, int... costs) {
        SpecBoard book = new SpecBoard();
        book.addRelease(capacity);
        for (int i = 0; i < costs.length; i++) {
            Books.wish(book, "" + (char) ('a' + i), costs[i], 10 + i);
            book.accept(i);
        }
        return book;
    }

    /** "Returns the capacity that is left.": down to 0. */
    private static void planJustFits() {
        Check.same("20: 1 of 1", 0, priced(1, 1).plan(0, 0));
        Check.same("20: 50 of 50", 0, priced(50, 50).plan(0, 0));
        Check.same("20: 50 of 51", 1, priced(51, 50).plan(0, 0));
        Check.same("20: 1 of 500", 499, priced(500, 1).plan(0, 0));
        SpecBoard book = priced(500, 50, 50, 50, 50, 50, 50, 50, 50, 50, 50);
        for (int i = 0; i < 10; i++) {
            Check.same("20: wish " + i, 450 - 50 * i, book.plan(i, 0));
        }
        SpecBoard sixteen = Books.withAccepted(16);
        for (int i = 0; i < 6; i++) {
            sixteen.addRelease(16);
        }
        for (int i = 0; i < 16; i++) {
            Check.same("20: wish " + i + " of sixteen", 15 - i, sixteen.plan(i, 5));
        }
        Check.same("20: into a release of cost 2", 0, twoLeft().plan(1, 0));
    }

    private static SpecBoard twoLeft() {
        SpecBoard book = priced(5, 3, 2, 3);
        book.plan(0, 0);
        return book;
    }

    /** "if its cost is greater than the capacity that is left": by one, and by far. */
    private static void planTooDear() {
        Refusal.of("20: 2 of 1", UNSUPPORTED, () -> priced(1, 2), b -> b.plan(0, 0));
        Refusal.of("20: 50 of 49", UNSUPPORTED, () -> priced(49, 50), b -> b.plan(0, 0));
        Refusal.of("20: 50 of 1", UNSUPPORTED, () -> priced(1, 50), b -> b.plan(0, 0));
        Refusal.of("20: 3 of 2 left", UNSUPPORTED, ReleaseEdgeTest::twoLeft, b -> b.plan(2, 0));
        Refusal.of("20: 1 of 0 left", UNSUPPORTED, () -> {
            SpecBoard book = priced(1, 1, 1);
            book.plan(1, 0);
            return book;
        }, b -> b.plan(0, 0));
        Refusal.of("20: a busy book", UNSUPPORTED, Books::busyTyping, b -> b.plan(5, Books.TIGHT));
        SpecBoard freed = twoLeft();
        freed.unplan(0);
        Check.same("20: an unplanned one frees its cost", 2, freed.plan(2, 0));
        SpecBoard dropped = twoLeft();
        dropped.drop(0);
        Check.same("20: a dropped one frees its cost", 2, dropped.plan(2, 0));
    }

    /** "planned for it, or were shipped with it": a release of another number has room of its own. */
    private static void planOfShippedCosts() {
        SpecBoard book = priced(4, 4, 4);
        book.addRelease(4);
        Books.ship(book, 0, 0);
        Check.same("20: the shipped wish's cost stays", 0, book.left(0));
        Check.same("20: the other release has its own room", 0, book.plan(1, 1));
    }

    /** "if the wish is not accepted, or is planned, or the release was shipped". */
    private static void planRefusedStates() {
        int[] wrong = {Books.NEW, Books.PLANNED, Books.SHIPPED, Books.DROPPED};
        for (int release : new int[] {Books.GONE, Books.OPEN, Books.TIGHT}) {
            Refusal.ofEach("20: not accepted, for " + release, STATE, Books::busyTyping, wrong,
                (b, n) -> b.plan(n, release));
        }
        Refusal.ofEach("20: not accepted, full", STATE, Books::fullTyping, wrong, (b, n) -> b.plan(n, 5));
        Refusal.of("20: a shipped release with room", STATE, Books::busyTyping, b -> b.plan(5, Books.GONE));
        SpecBoard book = Books.busy();
        Check.same("20: accepted", 20, book.plan(5, Books.OPEN));
        book.unplan(5);
        Check.same("20: accepted again", 20, book.plan(5, Books.OPEN));
    }

    /** "the exception that is listed first": the states come before the cost. */
    private static void planFirstListed() {
        Refusal.of("20: new and too dear", STATE, Books::busyTyping, b -> b.plan(Books.NEW, Books.TIGHT));
        Refusal.of("20: planned and too dear", STATE, Books::busyTyping, b -> b.plan(Books.PLANNED, Books.TIGHT));
        Refusal.of("20: shipped and too dear", STATE, Books::busyTyping, b -> b.plan(Books.SHIPPED, Books.TIGHT));
        Refusal.of("20: dropped and too dear", STATE, Books::busyTyping, b -> b.plan(Books.DROPPED, Books.OPEN));
        Refusal.of("20: a shipped release, too dear", STATE, Books::busyTyping,
            b -> b.plan(Books.ACCEPTED, Books.GONE));
        Refusal.of("20: a shipped release, new and too dear", STATE, () -> {
            SpecBoard book = sixShipped();
            Books.wish(book, "g", 50, 1);
            return book;
        }, b -> b.plan(6, 5));
    }

    // ---- 21 to 23: unplan, releaseOf, left

    /** "Returns the release for which it was planned.": the first and the last. */
    private static void unplan() {
        SpecBoard book = Books.withAccepted(16);
        for (int i = 0; i < 6; i++) {
            book.addRelease(16);
        }
        for (int i = 0; i < 6; i++) {
            book.plan(15, i);
            Check.same("21: release " + i, i, book.unplan(15));
            Check.same("21: accepted again", 'a', book.state(15));
            Check.same("21: its cost is free", 16, book.left(i));
        }
        book.plan(0, 0);
        book.plan(15, 0);
        Check.same("21: one of two", 0, book.unplan(0));
        Check.same("21: the other stays", 15, book.left(0));
    }

    /** "if it is not planned". */
    private static void unplanRefused() {
        int[] wrong = {Books.NEW, Books.ACCEPTED, Books.SHIPPED, Books.DROPPED};
        Refusal.ofEach("21: not planned", STATE, Books::busyTyping, wrong, SpecBoard::unplan);
        Refusal.ofEach("21: not planned, full", STATE, Books::fullTyping, wrong, SpecBoard::unplan);
        SpecBoard twice = Books.busy();
        twice.unplan(Books.PLANNED);
        Check.fails("21: twice", STATE, () -> twice.unplan(Books.PLANNED));
        SpecBoard dropped = Books.busy();
        dropped.drop(Books.PLANNED);
        Check.fails("21: dropped while it was planned", STATE, () -> dropped.unplan(Books.PLANNED));
    }

    /** "for which a wish is planned, or with which it was shipped": the first and the last. */
    private static void releaseOf() {
        SpecBoard book = sixShipped();
        for (int i = 0; i < 6; i++) {
            Check.same("22: shipped with " + i, i, book.releaseOf(i));
        }
        SpecBoard planned = Books.withAccepted(16);
        for (int i = 0; i < 6; i++) {
            planned.addRelease(16);
            planned.plan(15 - i, i);
            Check.same("22: planned for " + i, i, planned.releaseOf(15 - i));
        }
    }

    /** "if there is none". */
    private static void releaseOfNone() {
        int[] without = {Books.NEW, Books.ACCEPTED, Books.DROPPED};
        Refusal.ofEach("22: none", NO_ELEMENT, Books::busyTyping, without, SpecBoard::releaseOf);
        Refusal.ofEach("22: none, full", NO_ELEMENT, Books::fullTyping, without, SpecBoard::releaseOf);
        SpecBoard book = Books.busy();
        book.unplan(Books.PLANNED);
        Check.fails("22: unplanned", NO_ELEMENT, () -> book.releaseOf(Books.PLANNED));
        SpecBoard dropped = Books.busy();
        dropped.drop(Books.PLANNED);
        Check.fails("22: dropped", NO_ELEMENT, () -> dropped.releaseOf(Books.PLANNED));
    }

    /** "Returns the capacity, without the costs of its wishes.": all of it, and nothing. */
    private static void left() {
        SpecBoard book = priced(500, 50, 50, 50, 50, 50, 50, 50, 50, 50, 50);
        book.addRelease(1);
        for (int i = 0; i < 10; i++) {
            Check.same("23: up to now", 500 - 50 * i, book.left(0));
            book.plan(i, 0);
        }
        Check.same("23: nothing", 0, book.left(0));
        Check.same("23: the least", 1, book.left(1));
        Check.same("23: shipped", 6, Books.busy().left(Books.GONE));
    }

    // ---- 24 and 25: reasonAgainst, ship

    /**
     * A release 0 with wishes 0 and 2, shipped or not, and with reasons against it: 0 needs the
     * accepted 1, 0 and 2 exclude each other, 2 has an uncovered child 4 beside the covered 3.
     */
    private static SpecBoard withReasons(boolean shipped, boolean need, boolean clash, boolean uncovered) {
        SpecBoard book = Books.withAccepted(5);
        book.addRelease(9);
        book.refine(3, 2);
        book.plan(0, 0);
        book.plan(2, 0);
        Books.passedTest(book, 0, 0);
        Books.passedTest(book, 3, 0);
        if (shipped) {
            book.ship(0);
        }
        if (need) {
            book.need(0, 1);
        }
        if (clash) {
            book.exclude(2, 0);
        }
        if (uncovered) {
            book.refine(4, 2);
        }
        return book;
    }

    /** "'s', 'e', 'd', 'c' or 't', or '-' if there is none." */
    private static void reasonsAlone() {
        Check.same("24: none", '-', withReasons(false, false, false, false).reasonAgainst(0));
        Check.same("24: shipped", 's', withReasons(true, false, false, false).reasonAgainst(0));
        Check.same("24: a need", 'd', withReasons(false, true, false, false).reasonAgainst(0));
        Check.same("24: a clash", 'c', withReasons(false, false, true, false).reasonAgainst(0));
        Check.same("24: uncovered", 't', withReasons(false, false, false, true).reasonAgainst(0));
    }

    /** "the first reason": of all sixteen ways in which four reasons hold; each one refuses `ship`. */
    private static void reasonsTogether() {
        for (int i = 0; i < 16; i++) {
            int set = i;
            Refusal.Recipe recipe = () -> withReasons((set & 8) != 0, (set & 4) != 0, (set & 2) != 0, (set & 1) != 0);
            char due = set >= 8 ? 's' : set >= 4 ? 'd' : set >= 2 ? 'c' : set == 1 ? 't' : '-';
            Check.same("24: reasons " + set, due, recipe.make().reasonAgainst(0));
            if (set != 0) {
                Refusal.of("25: reasons " + set, UNSUPPORTED, recipe, b -> b.ship(0));
            }
        }
        Check.same("25: no reason", 2, withReasons(false, false, false, false).ship(0));
    }

    /** "'e', no wishes are planned for it". */
    private static void reasonEmpty() {
        SpecBoard book = withReasons(false, true, true, true);
        book.unplan(0);
        book.unplan(2);
        Check.same("24: all unplanned", 'e', book.reasonAgainst(0));
        book.plan(2, 0);
        Check.same("24: one planned", 't', book.reasonAgainst(0));
        book.drop(2);
        Check.same("24: all dropped", 'e', book.reasonAgainst(0));
        SpecBoard six = new SpecBoard();
        for (int i = 0; i < 6; i++) {
            six.addRelease(500);
            Check.same("24: an empty book", 'e', six.reasonAgainst(i));
        }
        Refusal.ofEach("25: empty", UNSUPPORTED, Books::fullTyping, new int[] {Books.TIGHT, 3, 4, 5}, SpecBoard::ship);
        Refusal.of("25: empty, no wishes", UNSUPPORTED, () -> {
            SpecBoard empty = new SpecBoard();
            empty.addRelease(1);
            return empty;
        }, b -> b.ship(0));
    }

    /** "one of them needs a wish that is neither shipped nor planned for this release". */
    private static void reasonNeeds() {
        SpecBoard book = withReasons(false, true, false, false);
        book.addRelease(9);
        Check.same("24: it needs an accepted one", 'd', book.reasonAgainst(0));
        book.plan(1, 1);
        Check.same("24: one planned for another release", 'd', book.reasonAgainst(0));
        Books.passedTest(book, 1, 1);
        book.ship(1);
        Check.same("24: one shipped with another release", '-', book.reasonAgainst(0));
        book.need(1, 4);
        Check.same("24: what that one needs does not count", '-', book.reasonAgainst(0));
        book.need(2, 0);
        Check.same("24: one planned for this release", '-', book.reasonAgainst(0));
        book.need(2, Books.wish(book, "z", 1, 1));
        Check.same("24: the last needs a new one", 'd', book.reasonAgainst(0));
        book.drop(5);
        Check.same("24: the last needs a dropped one", 'd', book.reasonAgainst(0));
        book.unplan(2);
        Check.same("24: the last is unplanned", '-', book.reasonAgainst(0));
    }

    /** "one of them and another wish that is shipped or planned for this release exclude each other". */
    private static void reasonClashes() {
        SpecBoard book = withReasons(false, false, false, false);
        book.addRelease(9);
        book.exclude(0, 1);
        Check.same("24: it excludes an accepted one", '-', book.reasonAgainst(0));
        book.plan(1, 1);
        Check.same("24: one planned for another release", '-', book.reasonAgainst(0));
        Books.passedTest(book, 1, 1);
        book.ship(1);
        Check.same("24: one shipped with another release", 'c', book.reasonAgainst(0));
        book.drop(0);
        Check.same("24: the one that clashes is dropped", '-', book.reasonAgainst(0));
        int late = Books.wish(book, "z", 1, 1);
        book.exclude(late, 2);
        Check.same("24: it excludes a new one", '-', book.reasonAgainst(0));
        book.drop(late);
        Check.same("24: it excludes a dropped one", '-', book.reasonAgainst(0));
    }

    /** "one of them is not covered in this release". */
    private static void reasonUncovered() {
        SpecBoard book = withReasons(false, false, false, true);
        book.drop(4);
        Check.same("24: the uncovered child is dropped", '-', book.reasonAgainst(0));
        book.result(0, 0, 'f');
        Check.same("24: the first is not covered", 't', book.reasonAgainst(0));
        book.addRelease(9);
        book.result(0, 1, 'p');
        Check.same("24: it is in another release", 't', book.reasonAgainst(0));
        book.unplan(0);
        Check.same("24: it is unplanned", '-', book.reasonAgainst(0));
        book.result(1, 0, '-');
        Check.same("24: the last is not covered", 't', book.reasonAgainst(0));
    }

    /** "Returns the number of these wishes.": from 1 to 16. */
    private static void shipCounts() {
        for (int count : new int[] {1, 2, 15, 16}) {
            SpecBoard book = Books.withAccepted(16);
            book.addRelease(16);
            book.addTest();
            book.result(0, 0, 'p');
            for (int i = 0; i < count; i++) {
                book.plan(15 - i, 0);
                book.cover(0, 15 - i);
            }
            Check.same("25: ship " + count, count, book.ship(0));
            for (int i = 0; i < 16; i++) {
                Check.same("25: state of " + (15 - i), i < count ? 's' : 'a', book.state(15 - i));
            }
            Check.same("25: nothing more is left", 16 - count, book.left(0));
        }
    }

    /** "if there is a reason against it": it was shipped, in a busy book and a full one. */
    private static void shipRefused() {
        Refusal.of("25: shipped", UNSUPPORTED, Books::busyTyping, b -> b.ship(Books.GONE));
        Refusal.of("25: shipped, full", UNSUPPORTED, Books::fullTyping, b -> b.ship(Books.GONE));
        Refusal.of("25: uncovered", UNSUPPORTED, Books::busyTyping, b -> b.ship(Books.OPEN));
        Refusal.ofEach("25: all shipped", UNSUPPORTED, ReleaseEdgeTest::sixShipped, new int[] {0, 5}, SpecBoard::ship);
    }

    /** "the wishes that are planned for it are shipped": and no others. */
    private static void shipLeavesTheOthers() {
        SpecBoard book = Books.busy();
        book.plan(5, Books.OPEN);
        book.result(1, Books.OPEN, 'p');
        Books.passedTest(book, 5, Books.OPEN);
        Check.same("25: two", 2, book.ship(Books.OPEN));
        String due = "nassds";
        for (int i = 0; i < due.length(); i++) {
            Check.same("25: wish " + i, due.charAt(i), book.state(i));
        }
        SpecBoard two = Books.withAccepted(2);
        two.addRelease(1);
        two.addRelease(1);
        two.plan(0, 0);
        two.plan(1, 1);
        Books.passedTest(two, 1, 1);
        Check.same("25: the last release alone", 1, two.ship(1));
        Check.same("25: the first stays", 'p', two.state(0));
    }

    // ---- 26 and 27: bestValue, bestValueByTrying

    private static void best(String what, int due, SpecBoard book, int release) {
        Check.same("26: " + what, due, book.bestValue(release));
        Check.same("27: " + what, due, book.bestValueByTrying(release));
    }

    /** "0 for the empty set". */
    private static void bestOfTheEmptySet() {
        SpecBoard none = new SpecBoard();
        none.addRelease(500);
        best("no wishes", 0, none, 0);
        best("all too dear", 0, priced(1, 2, 50, 3), 0);
        SpecBoard used = priced(5, 5, 1, 2);
        used.plan(0, 0);
        best("nothing is left", 0, used, 0);
        SpecBoard worthless = new SpecBoard();
        worthless.addRelease(500);
        Books.wish(worthless, "a", 1, 0);
        worthless.accept(0);
        best("no value", 0, worthless, 0);
        SpecBoard dropped = priced(500, 1);
        dropped.drop(0);
        best("dropped", 0, dropped, 0);
    }

    /** "their costs are together not greater than the capacity that is left". */
    private static void bestThatJustFits() {
        best("1 of 1", 10, priced(1, 1), 0);
        best("50 of 50", 10, priced(50, 50), 0);
        best("50 of 49", 0, priced(49, 50), 0);
        best("20 and 30 of 50", 21, priced(50, 20, 30), 0);
        best("20 and 30 of 49", 11, priced(49, 20, 30), 0);
        best("ten of 50 of 500", 145, priced(500, 50, 50, 50, 50, 50, 50, 50, 50, 50, 50), 0);
        best("ten of 50 of 499", 135, priced(499, 50, 50, 50, 50, 50, 50, 50, 50, 50, 50), 0);
        SpecBoard used = priced(50, 20, 29, 30, 31);
        used.plan(0, 0);
        best("30 of 30 left", 12, used, 0);
        used.drop(2);
        best("29 of 30 left", 11, used, 0);
    }

    /** "wishes that are accepted and not planned". */
    private static void bestOfEachState() {
        SpecBoard book = new SpecBoard();
        int[] values = {1, 2, 4, 8, 16};
        for (int i = 0; i < 5; i++) {
            Books.wish(book, "" + (char) ('a' + i), 1, values[i]);
        }
        book.addRelease(50);
        book.addRelease(50);
        book.addRelease(50);
        for (int i = 1; i < 5; i++) {
            book.accept(i);
        }
        best("all but the new one", 30, book, 0);
        book.plan(1, 0);
        best("not one planned for it", 28, book, 0);
        best("nor for another release", 28, book, 1);
        Books.ship(book, 2, 1);
        best("nor a shipped one", 24, book, 0);
        book.drop(3);
        best("nor a dropped one", 16, book, 0);
        book.unplan(1);
        best("an unplanned one again", 18, book, 0);
        book.accept(0);
        best("the new one is accepted", 19, book, 2);
    }

    /** "each wish that one of them needs is shipped, planned for this release, or in the set". */
    private static void bestWithNeeds() {
        SpecBoard book = priced(3, 1, 1, 1);
        book.addRelease(3);
        best("free", 33, book, 0);
        book.need(2, 0);
        best("in the set, ahead of it", 33, book, 0);
        book.need(0, 1);
        best("in the set, behind it", 33, book, 0);
        book.plan(1, 1);
        best("planned for another release", 0, book, 0);
        best("planned for this release", 22, book, 1);
        Books.passedTest(book, 1, 1);
        book.ship(1);
        best("shipped", 22, book, 0);
        SpecBoard fresh = priced(3, 1, 1, 1);
        fresh.need(0, Books.wish(fresh, "z", 1, 99));
        best("new", 23, fresh, 0);
        fresh.drop(3);
        best("dropped", 23, fresh, 0);
        SpecBoard tight = priced(2, 1, 2, 2);
        tight.need(0, 1);
        best("both do not fit", 12, tight, 0);
        tight.need(2, 0);
        best("a chain does not fit", 11, tight, 0);
        tight.plan(0, 0);
        best("the needed one is planned, too little is left", 0, tight, 0);
    }

    /** "none of them excludes, or is excluded by, one that is shipped, planned for this release, or in the set". */
    private static void bestWithExclusions() {
        for (int i = 0; i < 2; i++) {
            SpecBoard book = priced(9, 1, 1, 1);
            book.addRelease(9);
            book.exclude(i, 1 - i);
            best("in the set", 23, book, 0);
            book.plan(i, 0);
            best("planned for this release", 12, book, 0);
            best("planned for another release", 23 - i, book, 1);
            Books.passedTest(book, i, 0);
            book.ship(0);
            best("shipped with another release", 12, book, 1);
        }
        SpecBoard free = priced(9, 1, 1);
        free.exclude(1, Books.wish(free, "z", 1, 99));
        best("a new one", 21, free, 0);
        free.drop(2);
        best("a dropped one", 21, free, 0);
        SpecBoard both = priced(9, 1, 1);
        both.need(0, 1);
        both.exclude(0, 1);
        best("needed and excluded", 11, both, 0);
        SpecBoard all = priced(9, 1, 1, 1, 1);
        for (int i = 0; i < 4; i++) {
            for (int j = 0; j < i; j++) {
                all.exclude(i, j);
            }
        }
        best("all exclude each other", 13, all, 0);
    }

    /** "the greatest sum": of sixteen wishes with the greatest values and costs. */
    private static void bestOfSixteen() {
        SpecBoard book = new SpecBoard();
        for (int i = 0; i < 16; i++) {
            Books.wish(book, "" + (char) ('a' + i), 50, 99);
            book.accept(i);
        }
        book.addRelease(500);
        book.addRelease(499);
        book.addRelease(49);
        best("ten of sixteen", 990, book, 0);
        best("nine of sixteen", 891, book, 1);
        best("none of sixteen", 0, book, 2);
        SpecBoard cheap = new SpecBoard();
        for (int i = 0; i < 16; i++) {
            Books.wish(cheap, "" + (char) ('a' + i), 1, 99);
            cheap.accept(i);
        }
        cheap.addRelease(16);
        cheap.addRelease(15);
        best("all sixteen", 1584, cheap, 0);
        best("fifteen", 1485, cheap, 1);
        for (int i = 0; i < 15; i++) {
            cheap.need(i, i + 1);
        }
        best("fifteen, each needs the next", 1485, cheap, 1);
        cheap.need(0, 15);
        best("and the first the last", 1485, cheap, 1);
        cheap.drop(15);
        best("the end of the chain is dropped", 0, cheap, 0);
    }

    /** A need that leads over all the others, to the last wish and to the first. */
    private static void bestWithFarNeeds() {
        for (int needing : new int[] {0, 15}) {
            SpecBoard book = new SpecBoard();
            for (int i = 0; i < 16; i++) {
                Books.wish(book, "" + (char) ('a' + i), 1, i == needing ? 99 : 1);
                book.accept(i);
            }
            book.addRelease(2);
            book.addRelease(1);
            book.need(needing, 15 - needing);
            best("room for both", 100, book, 0);
            best("room for one", 1, book, 1);
        }
    }

    /** "if the release was shipped". */
    private static void bestRefused() {
        int[] gone = {Books.GONE};
        Refusal.ofEach("26: shipped", STATE, Books::busyTyping, gone, SpecBoard::bestValue);
        Refusal.ofEach("27: shipped", STATE, Books::busyTyping, gone, SpecBoard::bestValueByTrying);
        Refusal.ofEach("26: shipped, full", STATE, Books::fullTyping, gone, SpecBoard::bestValue);
        Refusal.ofEach("27: shipped, full", STATE, Books::fullTyping, gone, SpecBoard::bestValueByTrying);
        Refusal.ofEach("26: all shipped", STATE, ReleaseEdgeTest::sixShipped, new int[] {0, 5}, SpecBoard::bestValue);
        Refusal.ofEach("27: all shipped", STATE, ReleaseEdgeTest::sixShipped, new int[] {0, 5},
            SpecBoard::bestValueByTrying);
    }

    private static void askingChangesNothing() {
        Refusal.none("22: asking", Books::busyTyping, b -> b.releaseOf(Books.PLANNED));
        Refusal.none("23: asking", Books::busyTyping, b -> b.left(Books.OPEN));
        Refusal.none("24: asking", Books::busyTyping, b -> b.reasonAgainst(Books.OPEN));
        Refusal.none("26: asking", Books::busyTyping, b -> b.bestValue(Books.OPEN));
        Refusal.none("27: asking", Books::busyTyping, b -> b.bestValueByTrying(Books.OPEN));
    }
}
