import java.util.NoSuchElementException;

/** Promises 1 to 12: a new object and the wishes. */
final class WishTest {
    private static final Class<IndexOutOfBoundsException> NO_INDEX = IndexOutOfBoundsException.class;
    private static final Class<IllegalArgumentException> ARGUMENT = IllegalArgumentException.class;
    private static final Class<IllegalStateException> STATE = IllegalStateException.class;
    private static final Class<NoSuchElementException> NO_ELEMENT = NoSuchElementException.class;
    private static final Class<UnsupportedOperationException> UNSUPPORTED = UnsupportedOperationException.class;

    public static void main(String[] args) {
        newObject();
        type();
        addWish();
        addWishEmptiesTheBuffer();
        addWishToAFullBook();
        wishNamed();
        accept();
        drop();
        state();
        refine();
        need();
        exclude();
        parentOf();
        touched();
        Check.end();
    }

    private static void newObject() {
        SpecBoard book = new SpecBoard();
        Check.fails("1: no wishes", NO_INDEX, () -> book.state(0));
        Check.fails("1: no tests", NO_INDEX, () -> book.cover(0, 0));
        Check.fails("1: no risks", NO_INDEX, () -> book.chance(0));
        Check.fails("1: no releases", NO_INDEX, () -> book.left(0));
        Check.fails("1: no baselines", NO_INDEX, () -> book.differences(0, 0));
        Check.fails("1: no line", NO_INDEX, () -> book.lineAt(0));
        Check.fails("1: no text", ARGUMENT, () -> book.addWish(1, 1));
        Check.same("1: no exposure", 0L, book.exposure());
        Books.wish(book, "a", 1, 1);
        Check.fails("1: books are apart", NO_INDEX, () -> new SpecBoard().state(0));
    }

    private static void type() {
        SpecBoard book = new SpecBoard();
        Check.same("2: a", 1, book.type('a'));
        Check.same("2: z", 2, book.type('z'));
        for (char wrong : new char[] {'`', '{', 'A', 'Z', ' ', '0', (char) 0, (char) 228, (char) 65535}) {
            Check.fails("2: " + (int) wrong, ARGUMENT, () -> book.type(wrong));
        }
        Check.same("2: a refused one changes nothing", 3, book.type('m'));
        Books.type(book, "qqqq");
        Check.same("2: the eighth", 8, book.type('q'));
        Check.fails("2: a ninth", STATE, () -> book.type('q'));
        Check.fails("2: no letter comes before a full buffer", ARGUMENT, () -> book.type('Q'));
        Check.same("2: a full buffer is a name", 0, book.addWish(1, 1));
        Books.type(book, "azmqqqqq");
        Check.same("2: in the order of typing", 0, book.wishNamed());
    }

    private static void addWish() {
        SpecBoard book = new SpecBoard();
        Check.fails("3: no name", ARGUMENT, () -> book.addWish(1, 1));
        Check.same("3: least", 0, Books.wish(book, "a", 1, 0));
        Check.same("3: most", 1, Books.wish(book, "abcdefgh", 50, 99));
        int[][] wrong = {{0, 1}, {51, 1}, {-1, 1}, {1, -1}, {1, 100},
            {Integer.MIN_VALUE, 1}, {1, Integer.MAX_VALUE}};
        for (int[] pair : wrong) {
            Check.fails("3: " + pair[0] + ", " + pair[1], ARGUMENT, () -> Books.wish(book, "b", pair[0], pair[1]));
        }
        Check.fails("3: the name is taken", STATE, () -> Books.wish(book, "a", 2, 2));
        Check.fails("3: a number comes before the name", ARGUMENT, () -> Books.wish(book, "a", 0, 2));
        Check.same("3: a beginning of a name is another name", 2, Books.wish(book, "abcdefg", 1, 1));
        book.drop(0);
        Check.fails("3: a dropped wish keeps its name", STATE, () -> Books.wish(book, "a", 2, 2));
        book.accept(1);
        book.addRelease(51);
        Check.same("3: the cost is kept", 1, book.plan(1, 0));
        book.accept(2);
        Check.same("3: the value is kept", 1, book.bestValue(0));
    }

    private static void addWishEmptiesTheBuffer() {
        SpecBoard book = new SpecBoard();
        Books.wish(book, "a", 1, 1);
        Check.same("3: empty after a wish", 1, book.type('b'));
        Check.fails("3: a wrong cost", ARGUMENT, () -> book.addWish(0, 0));
        Check.same("3: empty after a wrong cost", 1, book.type('a'));
        Check.fails("3: a taken name", STATE, () -> book.addWish(1, 1));
        Check.same("3: empty after a taken name", 1, book.type('c'));
        Check.same("3: none was added meanwhile", 1, book.addWish(1, 1));
    }

    private static void addWishToAFullBook() {
        SpecBoard book = Books.withWishes(15);
        Check.same("3: the sixteenth", 15, Books.wish(book, "zz", 1, 1));
        Check.fails("3: a seventeenth", STATE, () -> Books.wish(book, "y", 1, 1));
        Check.same("3: empty after a full book", 1, book.type('y'));
        Check.fails("3: a number comes before a full book", ARGUMENT, () -> book.addWish(1, 100));
        Check.fails("3: no name comes before a full book", ARGUMENT, () -> book.addWish(1, 1));
    }

    private static void wishNamed() {
        SpecBoard book = new SpecBoard();
        Check.fails("4: no text", NO_ELEMENT, book::wishNamed);
        Books.wish(book, "ab", 1, 1);
        Books.wish(book, "a", 1, 1);
        Check.fails("4: no text, some wishes", NO_ELEMENT, book::wishNamed);
        book.type('a');
        Check.same("4: a", 1, book.wishNamed());
        Check.same("4: again", 1, book.wishNamed());
        Check.same("4: the text stays", 2, book.type('b'));
        Check.same("4: ab", 0, book.wishNamed());
        book.type('c');
        Check.fails("4: abc", NO_ELEMENT, book::wishNamed);
        Check.same("4: the text stays when there is none", 4, book.type('d'));
        Check.same("4: and can name a wish", 2, book.addWish(1, 1));
        book.drop(1);
        book.type('a');
        Check.same("4: a dropped wish", 1, book.wishNamed());
    }

    private static void accept() {
        SpecBoard book = Books.withWishes(4);
        book.addRelease(9);
        Check.same("5: one", 1, book.accept(2));
        Check.same("5: two", 2, book.accept(0));
        book.plan(2, 0);
        Check.same("5: a planned one does not count", 2, book.accept(1));
        Check.fails("5: accepted", STATE, () -> book.accept(0));
        Check.fails("5: planned", STATE, () -> book.accept(2));
        book.drop(3);
        Check.fails("5: dropped", STATE, () -> book.accept(3));
        Books.passedTest(book, 2, 0);
        book.ship(0);
        Check.fails("5: shipped", STATE, () -> book.accept(2));
        Check.fails("5: no wish", NO_INDEX, () -> book.accept(4));
        Check.fails("5: below 0", NO_INDEX, () -> book.accept(-1));
    }

    private static void drop() {
        SpecBoard book = Books.withWishes(5);
        book.addRelease(9);
        book.accept(1);
        book.accept(2);
        book.accept(3);
        book.plan(2, 0);
        book.plan(3, 0);
        Check.same("6: a new one", 1, book.drop(0));
        Check.same("6: an accepted one", 2, book.drop(1));
        Check.same("6: a planned one", 3, book.drop(2));
        Check.same("6: is not planned any more", 8, book.left(0));
        Check.fails("6: has no release", NO_ELEMENT, () -> book.releaseOf(2));
        Check.fails("6: twice", STATE, () -> book.drop(2));
        Books.passedTest(book, 3, 0);
        book.ship(0);
        Check.fails("6: shipped", STATE, () -> book.drop(3));
        Check.fails("6: no wish", NO_INDEX, () -> book.drop(5));
        Check.fails("6: below 0", NO_INDEX, () -> book.drop(-1));
        Check.same("6: the refused changed nothing", 4, book.drop(4));
    }

    private static void state() {
        SpecBoard book = Books.withWishes(2);
        book.addRelease(9);
        Check.same("7: new", 'n', book.state(0));
        book.accept(0);
        Check.same("7: accepted", 'a', book.state(0));
        book.plan(0, 0);
        Check.same("7: planned", 'p', book.state(0));
        book.unplan(0);
        Check.same("7: unplanned", 'a', book.state(0));
        Books.ship(book, 0, 0);
        Check.same("7: shipped", 's', book.state(0));
        Check.same("7: another", 'n', book.state(1));
        book.drop(1);
        Check.same("7: dropped", 'd', book.state(1));
        Check.fails("7: no wish", NO_INDEX, () -> book.state(2));
        Check.fails("7: below 0", NO_INDEX, () -> book.state(-1));
        Check.fails("7: far below 0", NO_INDEX, () -> book.state(Integer.MIN_VALUE));
    }

    private static void refine() {
        SpecBoard book = Books.withWishes(6);
        Check.same("8: one child", 1, book.refine(1, 0));
        Check.same("8: two children", 2, book.refine(2, 0));
        book.drop(1);
        Check.same("8: a dropped child counts", 3, book.refine(3, 0));
        Check.same("8: a grandchild does not", 1, book.refine(4, 3));
        Check.fails("8: has a parent", STATE, () -> book.refine(4, 0));
        Check.fails("8: has this parent", STATE, () -> book.refine(4, 3));
        Check.fails("8: a parent comes before a circle", STATE, () -> book.refine(3, 4));
        Check.fails("8: itself", UNSUPPORTED, () -> book.refine(5, 5));
        Check.fails("8: by a child", UNSUPPORTED, () -> book.refine(0, 3));
        Check.fails("8: by a grandchild", UNSUPPORTED, () -> book.refine(0, 4));
        Check.fails("8: no wish", NO_INDEX, () -> book.refine(6, 0));
        Check.fails("8: no parent", NO_INDEX, () -> book.refine(5, 6));
        Check.fails("8: no parent comes before a parent it has", NO_INDEX, () -> book.refine(4, -1));
        Check.fails("8: below 0", NO_INDEX, () -> book.refine(-1, 0));
        Check.fails("8: none was set", NO_ELEMENT, () -> book.parentOf(0));
        Check.same("8: a tree below another wish", 1, book.refine(0, 5));
    }

    private static void need() {
        SpecBoard book = Books.withWishes(5);
        Check.same("9: one", 1, book.need(0, 1));
        Check.same("9: two", 2, book.need(0, 2));
        Check.fails("9: again", STATE, () -> book.need(0, 1));
        Check.same("9: another", 1, book.need(1, 2));
        Check.same("9: and on", 1, book.need(2, 3));
        Check.fails("9: itself", UNSUPPORTED, () -> book.need(4, 4));
        Check.fails("9: back", UNSUPPORTED, () -> book.need(1, 0));
        Check.fails("9: back by two", UNSUPPORTED, () -> book.need(3, 0));
        Check.fails("9: no wish", NO_INDEX, () -> book.need(5, 0));
        Check.fails("9: no other", NO_INDEX, () -> book.need(0, 5));
        Check.fails("9: below 0", NO_INDEX, () -> book.need(-1, 0));
        Check.fails("9: other below 0", NO_INDEX, () -> book.need(0, -1));
        Check.same("9: the refused were not counted", 3, book.need(0, 3));
        book.refine(4, 3);
        Check.same("9: a parent is no need", 1, book.need(3, 4));
        SpecBoard chain = Books.withWishes(16);
        for (int i = 15; i > 0; i--) {
            chain.need(i - 1, i);
        }
        Check.fails("9: by all wishes", UNSUPPORTED, () -> chain.need(15, 0));
    }

    private static void exclude() {
        SpecBoard book = Books.withWishes(3);
        Check.yes("10: at first", book.exclude(0, 1));
        Check.no("10: again", book.exclude(0, 1));
        Check.no("10: the other way", book.exclude(1, 0));
        Check.yes("10: another pair", book.exclude(2, 0));
        Check.yes("10: the third pair", book.exclude(2, 1));
        Check.no("10: the first pair still", book.exclude(0, 1));
        Check.no("10: the second pair still", book.exclude(0, 2));
        Check.no("10: the third pair, the other way", book.exclude(1, 2));
        SpecBoard many = Books.withWishes(16);
        for (int i = 0; i < 16; i++) {
            for (int j = 0; j < i; j++) {
                Check.yes("10: each pair", many.exclude(i, j));
            }
        }
        for (int i = 0; i < 16; i++) {
            for (int j = 0; j < i; j++) {
                Check.no("10: each pair once", (i + j) % 2 == 0 ? many.exclude(i, j) : many.exclude(j, i));
            }
        }
        Check.fails("10: itself", ARGUMENT, () -> book.exclude(2, 2));
        Check.fails("10: no wish", NO_INDEX, () -> book.exclude(3, 0));
        Check.fails("10: no other", NO_INDEX, () -> book.exclude(0, 3));
        Check.fails("10: no wish comes before itself", NO_INDEX, () -> book.exclude(3, 3));
        Check.fails("10: below 0", NO_INDEX, () -> book.exclude(-1, -1));
    }

    private static void parentOf() {
        SpecBoard book = Books.withWishes(3);
        book.refine(0, 2);
        Check.same("11: the parent", 2, book.parentOf(0));
        Check.fails("11: none", NO_ELEMENT, () -> book.parentOf(1));
        book.drop(2);
        Check.same("11: a dropped parent", 2, book.parentOf(0));
        book.drop(0);
        Check.same("11: a dropped child", 2, book.parentOf(0));
        Check.fails("11: no wish", NO_INDEX, () -> book.parentOf(3));
        Check.fails("11: below 0", NO_INDEX, () -> book.parentOf(-1));
    }

    private static void touched() {
        SpecBoard book = Books.withWishes(6);
        Check.same("12: alone", 0, book.touched(0));
        book.refine(1, 0);
        Check.same("12: a child", 1, book.touched(0));
        Check.same("12: not upwards", 0, book.touched(1));
        book.need(2, 1);
        Check.same("12: what needs the child", 2, book.touched(0));
        book.refine(3, 2);
        book.need(3, 0);
        Check.same("12: each once", 3, book.touched(0));
        book.need(0, 4);
        Check.same("12: from the far end", 4, book.touched(4));
        book.need(4, 2);
        Check.same("12: in a circle, without itself", 4, book.touched(0));
        Check.same("12: in a circle, from elsewhere", 4, book.touched(2));
        book.drop(1);
        Check.same("12: dropped ones too", 4, book.touched(0));
        book.exclude(5, 0);
        Check.same("12: not by excluding", 0, book.touched(5));
        Check.fails("12: no wish", NO_INDEX, () -> book.touched(6));
        Check.fails("12: below 0", NO_INDEX, () -> book.touched(-1));
    }
}
