import java.util.NoSuchElementException;

/** The edges of promises 1 to 12, sentence by sentence: a new object and the wishes. */
final class WishEdgeTest {
    private static final Class<IndexOutOfBoundsException> NO_INDEX = IndexOutOfBoundsException.class;
    private static final Class<IllegalArgumentException> ARGUMENT = IllegalArgumentException.class;
    private static final Class<IllegalStateException> STATE = IllegalStateException.class;
    private static final Class<NoSuchElementException> NO_ELEMENT = NoSuchElementException.class;
    private static final Class<UnsupportedOperationException> UNSUPPORTED = UnsupportedOperationException.class;

    private static final String LETTERS = "abcdefghijklmnopqrstuvwxyz";
    private static final String[] NAMES_IN_BUSY = {"new", "house", "door", "roof", "tower", "f"};

    public static void main(String[] args) {
        newObject();
        newObjectsAreApart();
        typeLetters();
        typeOtherCharacters();
        typeCounts();
        typeIntoAFullBuffer();
        addWishNames();
        addWishEmptyContent();
        addWishCosts();
        addWishValues();
        addWishTakenNames();
        addWishSixteen();
        addWishFirstListed();
        addWishBufferAfterwards();
        wishNamedFound();
        wishNamedNotFound();
        accept();
        acceptRefused();
        drop();
        dropRefused();
        states();
        refineCounts();
        refineRefused();
        refineCircles();
        needCounts();
        needRefused();
        needCircles();
        exclude();
        excludeRefused();
        parentOf();
        touched();
        Check.end();
    }

    // ---- 1: a new object

    /** "Creates a book without wishes, tests, risks and releases." */
    private static void newObject() {
        Check.same("1: the first wish", 0, Books.wish(new SpecBoard(), "a", 1, 0));
        Check.same("1: the first test", 0, new SpecBoard().addTest());
        Check.same("1: the first release", 0, new SpecBoard().addRelease(1));
        Check.same("1: the first risk", 0, new SpecBoard().addRisk(0, 0));
        Check.same("1: the first baseline", 0, new SpecBoard().makeBaseline());
        SpecBoard book = new SpecBoard();
        for (char kind : new char[] {'w', 't', 'r'}) {
            Check.same("1: no open ends " + kind, 0, book.openEnds(kind));
            Check.fails("1: no open end " + kind, NO_ELEMENT, () -> book.openAt(kind, 0));
        }
        Check.same("1: no exposure", 0L, book.exposure());
        Check.fails("1: no mean chance", ArithmeticException.class, book::meanChance);
        Check.fails("1: no name", NO_ELEMENT, book::wishNamed);
        Check.fails("1: no line", NO_INDEX, () -> book.lineAt(0));
        Check.yes("1: consistent", book.isConsistent());
    }

    private static void newObjectsAreApart() {
        SpecBoard one = new SpecBoard();
        for (Probe probe : Probe.values()) {
            Answers before = probe.of(new SpecBoard());
            one = Books.fullTyping();
            Answers.same("1: one book knows nothing of another, " + probe, before, probe.of(new SpecBoard()));
        }
        Check.fails("1: no wish of the other's", NO_INDEX, () -> new SpecBoard().state(0));
        Check.same("1: no text of the other's", 1, new SpecBoard().type('a'));
        Check.fails("1: no line of the other's", NO_INDEX, () -> new SpecBoard().lineAt(0));
        Check.same("1: the other has it all", 15, one.wishNamed());
    }

    // ---- 2: type

    /** "a letter from 'a' to 'z'": each of them is taken as it is. */
    private static void typeLetters() {
        for (char letter : LETTERS.toCharArray()) {
            SpecBoard book = new SpecBoard();
            Check.same("2: " + letter, 1, book.type(letter));
            book.addWish(1, 1);
            book.writeWish(0);
            Check.same("2: it is " + letter, letter, book.lineAt(0));
            Check.same("2: it is " + letter + " alone", ':', book.lineAt(1));
        }
    }

    /** "if the character is no letter from 'a' to 'z'": all the other characters there are. */
    private static void typeOtherCharacters() {
        Edges.allOtherCharacters("2: type", LETTERS, ARGUMENT, SpecBoard::new, SpecBoard::type);
        Edges.allOtherCharacters("2: type, eight letters", LETTERS, ARGUMENT, Books::fullTyping, SpecBoard::type);
        int[] some = {0, ' ', 'A', 'Z', 'a' - 1, 'z' + 1, 'a' + 128, 'a' + 256, 'z' + 256, 'a' + 0x8000, 65535};
        Refusal.ofEach("2: no letter", ARGUMENT, SpecBoard::new, some, (b, n) -> b.type((char) n));
        Refusal.ofEach("2: no letter, some typed", ARGUMENT, Books::busyTyping, some, (b, n) -> b.type((char) n));
    }

    /** "the text buffer, which is initially empty", "the number of characters in the buffer afterwards". */
    private static void typeCounts() {
        SpecBoard book = new SpecBoard();
        for (int i = 1; i <= 8; i++) {
            Check.same("2: letter " + i, i, book.type('z'));
        }
        Check.same("2: eight letters are a name", 0, book.addWish(1, 1));
        for (int i = 1; i <= 8; i++) {
            Check.same("2: from the start, letter " + i, i, book.type("zzzzzzza".charAt(i - 1)));
        }
        Check.same("2: the last letter counts", 1, book.addWish(1, 1));
    }

    /** "if the buffer contains 8 characters"; what is no letter is refused first. */
    private static void typeIntoAFullBuffer() {
        int[] letters = {'a', 'h', 'z'};
        Refusal.ofEach("2: a ninth", STATE, Books::fullTyping, letters, (b, n) -> b.type((char) n));
        Refusal.ofEach("2: a ninth, no wishes", STATE, WishEdgeTest::eightLetters, letters,
            (b, n) -> b.type((char) n));
        int[] others = {0, 'a' - 1, 'z' + 1, 'A', 'a' + 256, 65535};
        Refusal.ofEach("2: no letter before a full buffer", ARGUMENT, WishEdgeTest::eightLetters, others,
            (b, n) -> b.type((char) n));
    }

    private static SpecBoard eightLetters() {
        SpecBoard book = new SpecBoard();
        Books.type(book, "abcdefgh");
        return book;
    }

    // ---- 3: addWish

    /** "whose name is the content of the text buffer": 1 to 8 letters. */
    private static void addWishNames() {
        SpecBoard book = new SpecBoard();
        for (int i = 1; i <= 8; i++) {
            String name = "zyxwvuts".substring(0, i);
            Check.same("3: a name of " + i, i - 1, Books.wish(book, name, 1, 1));
            Check.same("3: its line", i + 5, book.writeWish(i - 1));
            Check.same("3: its name", name + ": new", Books.lineOf(book, i + 5));
        }
    }

    /** "if the content is empty": in any book, and before all else. */
    private static void addWishEmptyContent() {
        Refusal.ofAddWish("3: empty, no wishes", ARGUMENT, SpecBoard::new, "", 1, 0);
        Refusal.ofAddWish("3: empty, some wishes", ARGUMENT, Books::busy, "", 50, 99);
        Refusal.ofAddWish("3: empty, and the book is full", ARGUMENT, Books::full, "", 1, 0);
        Refusal.ofAddWish("3: empty, and numbers out of range", ARGUMENT, Books::full, "", 0, 100);
    }

    /** "or a number is out of range": the cost, from 1 to 50. */
    private static void addWishCosts() {
        for (int cost : new int[] {1, 2, 49, 50}) {
            SpecBoard book = new SpecBoard();
            Check.same("3: cost " + cost, 0, Books.wish(book, "a", cost, 1));
            book.addRelease(500);
            book.accept(0);
            Check.same("3: is kept", 500 - cost, book.plan(0, 0));
        }
        for (int cost : Edges.outside(1, 50)) {
            Refusal.ofAddWish("3: cost " + cost, ARGUMENT, SpecBoard::new, "a", cost, 1);
            Refusal.ofAddWish("3: cost " + cost, ARGUMENT, Books::busy, "a", cost, 99);
            Refusal.ofAddWish("3: cost and value " + cost, ARGUMENT, Books::busy, "a", cost, -1);
        }
    }

    /** "or a number is out of range": the value, from 0 to 99. */
    private static void addWishValues() {
        for (int value : new int[] {0, 1, 98, 99}) {
            SpecBoard book = new SpecBoard();
            Check.same("3: value " + value, 0, Books.wish(book, "a", 50, value));
            book.addRelease(500);
            book.accept(0);
            Check.same("3: is kept", value, book.bestValue(0));
        }
        for (int value : Edges.outside(0, 99)) {
            Refusal.ofAddWish("3: value " + value, ARGUMENT, SpecBoard::new, "a", 1, value);
            Refusal.ofAddWish("3: value " + value, ARGUMENT, Books::busy, "a", 50, value);
            Refusal.ofAddWish("3: value and cost " + value, ARGUMENT, Books::busy, "a", 51, value);
        }
    }

    /** "if a wish has this name": the first, the last, and one in each state. */
    private static void addWishTakenNames() {
        for (String name : NAMES_IN_BUSY) {
            Refusal.ofAddWish("3: taken, " + name, STATE, Books::busy, name, 1, 0);
            Refusal.ofAddWish("3: taken and full, " + name, STATE, Books::full, name, 50, 99);
            SpecBoard book = Books.busy();
            Check.same("3: one letter more than " + name, 6, Books.wish(book, name + "a", 1, 1));
            Check.same("3: one letter before " + name, 7, Books.wish(book, "a" + name, 1, 1));
        }
        Refusal.ofAddWish("3: taken, eight letters", STATE, Books::full, "abcdefgh", 1, 1);
        SpecBoard book = new SpecBoard();
        Books.wish(book, "abcdefgh", 1, 1);
        Check.same("3: another last letter", 1, Books.wish(book, "abcdefgi", 1, 1));
        Check.same("3: another first letter", 2, Books.wish(book, "bbcdefgh", 1, 1));
        Check.same("3: one letter less", 3, Books.wish(book, "abcdefg", 1, 1));
        Check.same("3: turned round", 4, Books.wish(book, "hgfedcba", 1, 1));
    }

    /** "or there are 16 wishes": dropped ones are wishes too. */
    private static void addWishSixteen() {
        SpecBoard book = new SpecBoard();
        for (int i = 0; i < 16; i++) {
            Check.same("3: number", i, Books.wish(book, "" + (char) ('a' + i), 1, 1));
        }
        Check.fails("3: a seventeenth", STATE, () -> Books.wish(book, "q", 1, 1));
        Refusal.ofAddWish("3: a seventeenth", STATE, Books::full, "q", 1, 0);
        Refusal.ofAddWish("3: a seventeenth, eight letters", STATE, Books::full, "zzzzzzzz", 50, 99);
        Refusal.ofAddWish("3: a seventeenth, all dropped", STATE, WishEdgeTest::allDropped, "q", 1, 1);
        Refusal.ofAddWish("3: the name of a dropped one", STATE, WishEdgeTest::allDropped, "a", 1, 1);
    }

    private static SpecBoard allDropped() {
        SpecBoard book = Books.withWishes(16);
        for (int i = 0; i < 16; i++) {
            book.drop(i);
        }
        return book;
    }

    /** "the exception that is listed first": a number out of range comes before name and room. */
    private static void addWishFirstListed() {
        int[][] wrong = {{0, 1}, {51, 1}, {1, -1}, {1, 100}, {0, 100}, {51, -1},
            {Integer.MIN_VALUE, Integer.MAX_VALUE}, {Integer.MAX_VALUE, Integer.MIN_VALUE}};
        for (int[] pair : wrong) {
            String what = "3: " + pair[0] + ", " + pair[1];
            Refusal.ofAddWish(what + ", taken", ARGUMENT, Books::busy, "house", pair[0], pair[1]);
            Refusal.ofAddWish(what + ", full", ARGUMENT, Books::full, "q", pair[0], pair[1]);
            Refusal.ofAddWish(what + ", taken and full", ARGUMENT, Books::full, "house", pair[0], pair[1]);
            Refusal.ofAddWish(what + ", empty", ARGUMENT, Books::busy, "", pair[0], pair[1]);
        }
    }

    /** "The buffer is empty afterwards, also if an exception is thrown." */
    private static void addWishBufferAfterwards() {
        SpecBoard book = new SpecBoard();
        Books.wish(book, "abcdefgh", 1, 1);
        Check.fails("3: empty after a wish", ARGUMENT, () -> book.addWish(1, 1));
        Books.type(book, "abcdefgh");
        Check.fails("3: taken", STATE, () -> book.addWish(1, 1));
        Check.fails("3: empty after a taken name", ARGUMENT, () -> book.addWish(1, 1));
        Books.type(book, "ijklmnop");
        Check.fails("3: a wrong cost", ARGUMENT, () -> book.addWish(51, 1));
        Check.fails("3: empty after a wrong cost", NO_ELEMENT, book::wishNamed);
        Check.same("3: a refused name is free, and so is its number", 1, Books.wish(book, "ijklmnop", 50, 1));
        SpecBoard full = Books.fullTyping();
        Check.fails("3: full", STATE, () -> full.addWish(1, 1));
        Check.fails("3: empty after a full book", NO_ELEMENT, full::wishNamed);
        Check.same("3: empty after a full book", 1, full.type('a'));
    }

    // ---- 4: wishNamed

    /** "Returns the wish whose name is the content of the text buffer, which does not change." */
    private static void wishNamedFound() {
        for (int i = 0; i < NAMES_IN_BUSY.length; i++) {
            SpecBoard book = Books.busy();
            String name = NAMES_IN_BUSY[i];
            Books.type(book, name);
            Check.same("4: " + name, i, book.wishNamed());
            Check.same("4: again", i, book.wishNamed());
            Check.same("4: the text stays", name.length() + 1, book.type('x'));
        }
        Check.same("4: the last of sixteen", 15, Books.fullTyping().wishNamed());
        Refusal.none("4: found", Books::fullTyping, SpecBoard::wishNamed);
    }

    /** "if there is no such wish". */
    private static void wishNamedNotFound() {
        Refusal.of("4: no text, no wishes", NO_ELEMENT, SpecBoard::new, SpecBoard::wishNamed);
        Refusal.of("4: no text, some wishes", NO_ELEMENT, Books::busy, SpecBoard::wishNamed);
        Refusal.of("4: no text, full", NO_ELEMENT, Books::full, SpecBoard::wishNamed);
        Refusal.of("4: a text, no wishes", NO_ELEMENT, WishEdgeTest::eightLetters, SpecBoard::wishNamed);
        Refusal.of("4: the beginning of a name", NO_ELEMENT, Books::busyTyping, SpecBoard::wishNamed);
        for (String text : new String[] {"hous", "ouse", "houses", "esuoh", "ff", "g", "housf", "gouse"}) {
            SpecBoard book = Books.busy();
            Books.type(book, text);
            Check.fails("4: " + text, NO_ELEMENT, book::wishNamed);
            Check.same("4: " + text + " stays", text.length() + 1, book.type('x'));
        }
        SpecBoard refused = new SpecBoard();
        Check.fails("4: refused", ARGUMENT, () -> Books.wish(refused, "a", 0, 0));
        refused.type('a');
        Check.fails("4: a refused wish is none", NO_ELEMENT, refused::wishNamed);
    }

    // ---- 5 to 7: accept, drop, state

    /** "the number of wishes that are accepted and not planned": from 1 to 16. */
    private static void accept() {
        SpecBoard book = Books.withWishes(16);
        for (int i = 15; i >= 0; i--) {
            Check.same("5: accept " + i, 16 - i, book.accept(i));
        }
        SpecBoard others = Books.busy();
        Check.same("5: only the accepted are counted", 3, others.accept(Books.NEW));
        SpecBoard planned = Books.withWishes(2);
        planned.addRelease(1);
        planned.accept(0);
        planned.plan(0, 0);
        Check.same("5: the only one beside a planned one", 1, planned.accept(1));
    }

    /** "if it is not new". */
    private static void acceptRefused() {
        int[] all = {Books.ACCEPTED, Books.PLANNED, Books.SHIPPED, Books.DROPPED};
        Refusal.ofEach("5: not new", STATE, Books::busyTyping, all, SpecBoard::accept);
        Refusal.ofEach("5: not new, full", STATE, Books::fullTyping, all, SpecBoard::accept);
        SpecBoard book = Books.busy();
        book.unplan(Books.PLANNED);
        Check.fails("5: unplanned", STATE, () -> book.accept(Books.PLANNED));
    }

    /** "if it is planned for a release, it is not planned any more", "the number of wishes that are dropped". */
    private static void drop() {
        SpecBoard book = Books.withWishes(16);
        for (int i = 15; i >= 0; i--) {
            Check.same("6: drop " + i, 16 - i, book.drop(i));
        }
        SpecBoard busy = Books.busy();
        Check.same("6: a planned one", 2, busy.drop(Books.PLANNED));
        Check.same("6: frees the release", 30, busy.left(Books.OPEN));
        Check.same("6: which is empty now", 'e', busy.reasonAgainst(Books.OPEN));
        Check.fails("6: no release", NO_ELEMENT, () -> busy.releaseOf(Books.PLANNED));
        Check.fails("6: not planned", STATE, () -> busy.unplan(Books.PLANNED));
        Check.same("6: an accepted one", 3, busy.drop(Books.ACCEPTED));
        Check.same("6: a new one", 4, busy.drop(Books.NEW));
        Check.same("6: the shipped one stays", 6, busy.left(Books.GONE));
    }

    /** "if it is shipped or dropped". */
    private static void dropRefused() {
        int[] both = {Books.SHIPPED, Books.DROPPED};
        Refusal.ofEach("6: shipped or dropped", STATE, Books::busyTyping, both, SpecBoard::drop);
        Refusal.ofEach("6: shipped or dropped, full", STATE, Books::fullTyping, both, SpecBoard::drop);
    }

    /** "Returns the state of a wish": each of the five, and the last of sixteen. */
    private static void states() {
        String due = "napsda";
        SpecBoard book = Books.busy();
        for (int i = 0; i < due.length(); i++) {
            Check.same("7: wish " + i, due.charAt(i), book.state(i));
        }
        Check.same("7: the last of sixteen", 'n', Books.full().state(15));
        Refusal.none("7: asking", Books::busyTyping, b -> b.state(0));
    }

    // ---- 8: refine

    /** "the number of children of the parent afterwards, dropped ones included": from 1 to 15. */
    private static void refineCounts() {
        SpecBoard book = Books.withWishes(16);
        for (int i = 0; i < 15; i++) {
            Check.same("8: child " + i, i + 1, book.refine(i, 15));
            book.drop(i);
        }
        SpecBoard busy = Books.busy();
        Check.same("8: a shipped child", 3, busy.refine(Books.SHIPPED, Books.ACCEPTED));
        Check.same("8: a child of a dropped parent", 1, busy.refine(5, Books.DROPPED));
        Check.same("8: a planned parent", 1, busy.refine(Books.NEW, Books.PLANNED));
    }

    /** "if the wish has a parent": before a circle, and whatever the parent is. */
    private static void refineRefused() {
        for (int wish : new int[] {Books.PLANNED, Books.DROPPED}) {
            int[] parents = {0, 1, 2, 3, 4, 5};
            Refusal.ofEach("8: " + wish + " has a parent", STATE, Books::busyTyping, parents,
                (b, n) -> b.refine(wish, n));
            Refusal.ofEach("8: " + wish + " has a parent, full", STATE, Books::fullTyping, new int[] {0, wish, 15},
                (b, n) -> b.refine(wish, n));
        }
        int[] above = {1, 2, 14, 15};
        Refusal.ofEach("8: a parent and a circle", STATE, WishEdgeTest::chainOfParents, new int[] {1, 7, 15},
            (b, n) -> b.refine(1, n));
        Refusal.ofEach("8: a parent and itself", STATE, WishEdgeTest::chainOfParents, above,
            (b, n) -> b.refine(n, n));
    }

    /** Wish 0 is at the top, each other one refines the one before it. */
    private static SpecBoard chainOfParents() {
        SpecBoard book = Books.withWishes(16);
        for (int i = 1; i < 16; i++) {
            book.refine(i, i - 1);
        }
        return book;
    }

    /** "if the wish would refine itself by way of its parents": by 1 step to 16. */
    private static void refineCircles() {
        int[] all = new int[16];
        for (int i = 0; i < 16; i++) {
            all[i] = i;
        }
        Refusal.ofEach("8: a circle", UNSUPPORTED, WishEdgeTest::chainOfParents, all, (b, n) -> b.refine(0, n));
        Refusal.ofEach("8: itself", UNSUPPORTED, () -> Books.withWishes(16), all, (b, n) -> b.refine(n, n));
        Refusal.ofEach("8: itself, alone", UNSUPPORTED, () -> Books.withWishes(1), new int[1],
            (b, n) -> b.refine(n, n));
        Refusal.ofEach("8: by its children", UNSUPPORTED, Books::busyTyping,
            new int[] {Books.ACCEPTED, Books.PLANNED, Books.DROPPED}, (b, n) -> b.refine(Books.ACCEPTED, n));
        for (int step : new int[] {1, 7, 15}) {
            SpecBoard turned = Books.withWishes(16);
            for (int i = 1; i < 16; i++) {
                turned.refine((8 + i * step) % 16, (8 + (i - 1) * step) % 16);
            }
            for (int i = 0; i < 16; i++) {
                int from = (8 + i * step) % 16;
                Check.fails("8: a circle from " + from, UNSUPPORTED, () -> turned.refine(8, from));
            }
        }
        SpecBoard book = Books.withWishes(4);
        book.need(0, 1);
        Check.same("8: a need makes no circle", 1, book.refine(1, 0));
        Check.same("8: nor does a common parent", 2, book.refine(2, 0));
        Check.same("8: nor a parent's parent", 1, book.refine(0, 3));
    }

    // ---- 9: need

    /** "the number of wishes that it needs afterwards": from 1 to 15. */
    private static void needCounts() {
        SpecBoard book = Books.withWishes(16);
        for (int i = 0; i < 15; i++) {
            Check.same("9: need " + i, i + 1, book.need(15, i));
        }
        Check.same("9: another wish's", 1, book.need(14, 0));
        SpecBoard busy = Books.busy();
        Check.same("9: a dropped one", 2, busy.need(Books.ACCEPTED, Books.DROPPED));
        Check.same("9: by a shipped one", 1, busy.need(Books.SHIPPED, Books.NEW));
        Check.same("9: of an excluded one", 1, Books.busy().need(Books.NEW, Books.ACCEPTED));
    }

    /** "if it needs the other one already". */
    private static void needRefused() {
        Refusal.of("9: again", STATE, Books::busyTyping, b -> b.need(5, Books.SHIPPED));
        Refusal.of("9: again, full", STATE, Books::fullTyping, b -> b.need(Books.ACCEPTED, 5));
        int[] all = {1, 2, 7, 14, 15};
        Refusal.ofEach("9: each of fifteen again", STATE, WishEdgeTest::chainOfNeeds, all, (b, n) -> b.need(n, n - 1));
    }

    /** Each wish but the first needs the one before it. */
    private static SpecBoard chainOfNeeds() {
        SpecBoard book = Books.withWishes(16);
        for (int i = 1; i < 16; i++) {
            book.need(i, i - 1);
        }
        return book;
    }

    /** "if the wish would need itself by way of the wishes it needs": by 1 step to 16. */
    private static void needCircles() {
        int[] all = new int[16];
        for (int i = 0; i < 16; i++) {
            all[i] = i;
        }
        Refusal.ofEach("9: a circle", UNSUPPORTED, WishEdgeTest::chainOfNeeds, all, (b, n) -> b.need(0, n));
        Refusal.ofEach("9: itself", UNSUPPORTED, () -> Books.withWishes(16), all, (b, n) -> b.need(n, n));
        Refusal.ofEach("9: itself, alone", UNSUPPORTED, () -> Books.withWishes(1), new int[1], (b, n) -> b.need(n, n));
        Refusal.of("9: back", UNSUPPORTED, Books::busyTyping, b -> b.need(Books.SHIPPED, 5));
        Refusal.of("9: back by two", UNSUPPORTED, Books::busyTyping, b -> b.need(Books.SHIPPED, Books.ACCEPTED));
        for (int step : new int[] {1, 7, 15}) {
            SpecBoard turned = Books.withWishes(16);
            for (int i = 1; i < 16; i++) {
                turned.need((8 + i * step) % 16, (8 + (i - 1) * step) % 16);
            }
            for (int i = 0; i < 16; i++) {
                int from = (8 + i * step) % 16;
                Check.fails("9: a circle from " + from, UNSUPPORTED, () -> turned.need(8, from));
            }
        }
        Check.same("9: over the heads of others is no circle", 2, chainOfNeeds().need(15, 0));
        SpecBoard parents = chainOfParents();
        Check.same("9: a parent makes no circle", 1, parents.need(0, 15));
        Check.same("9: nor does a child", 1, parents.need(14, 13));
    }

    // ---- 10: exclude

    /** "Returns true if they did not exclude each other before.": each of the 120 pairs, either way. */
    private static void exclude() {
        SpecBoard book = Books.withWishes(16);
        for (int i = 0; i < 16; i++) {
            for (int j = 0; j < i; j++) {
                Check.yes("10: " + i + ", " + j, book.exclude(i, j));
                Check.no("10: again, " + j + ", " + i, book.exclude(j, i));
            }
        }
        SpecBoard busy = Books.busy();
        Check.no("10: they do", busy.exclude(Books.ACCEPTED, Books.NEW));
        Check.yes("10: shipped and dropped", busy.exclude(Books.SHIPPED, Books.DROPPED));
        Check.yes("10: one that it needs", busy.exclude(5, Books.SHIPPED));
        Check.yes("10: its parent", busy.exclude(Books.PLANNED, Books.ACCEPTED));
        Refusal.none("10: again", Books::busyTyping, b -> b.exclude(Books.ACCEPTED, Books.NEW));
    }

    /** "if both are the same". */
    private static void excludeRefused() {
        int[] all = {0, 1, 2, 3, 4, 5};
        Refusal.ofEach("10: itself", ARGUMENT, Books::busyTyping, all, (b, n) -> b.exclude(n, n));
        Refusal.ofEach("10: itself, full", ARGUMENT, Books::fullTyping, new int[] {0, 14, 15}, (b, n) -> b.exclude(n, n));
        Refusal.ofEach("10: itself, alone", ARGUMENT, () -> Books.withWishes(1), new int[1], (b, n) -> b.exclude(n, n));
    }

    // ---- 11 and 12: parentOf, touched

    /** "Returns the parent of a wish", the first and the last; "if it has none". */
    private static void parentOf() {
        SpecBoard book = Books.withWishes(16);
        book.refine(15, 0);
        book.refine(0, 14);
        book.refine(1, 15);
        Check.same("11: the first", 0, book.parentOf(15));
        Check.same("11: the last but one", 14, book.parentOf(0));
        Check.same("11: the last", 15, book.parentOf(1));
        int[] without = {Books.NEW, Books.ACCEPTED, Books.SHIPPED, 5};
        Refusal.ofEach("11: none", NO_ELEMENT, Books::busyTyping, without, SpecBoard::parentOf);
        Refusal.ofEach("11: none, full", NO_ELEMENT, Books::fullTyping, new int[] {0, 15}, SpecBoard::parentOf);
        Refusal.none("11: asking", Books::busyTyping, b -> b.parentOf(Books.PLANNED));
    }

    /** "those that refine or need it, those that refine or need one of these, and so on": 0 to 15. */
    private static void touched() {
        SpecBoard parents = chainOfParents();
        SpecBoard needs = chainOfNeeds();
        for (int i = 0; i < 16; i++) {
            Check.same("12: below " + i, 15 - i, parents.touched(i));
            Check.same("12: behind " + i, 15 - i, needs.touched(i));
        }
        parents.need(0, 15);
        for (int i = 0; i < 16; i++) {
            Check.same("12: round the circle from " + i, 15, parents.touched(i));
        }
        SpecBoard star = Books.withWishes(16);
        for (int i = 1; i < 16; i += 2) {
            star.refine(i, 0);
            Check.same("12: one more child", i, star.touched(0));
            if (i < 15) {
                star.need(i + 1, 0);
                Check.same("12: one more that needs it", i + 1, star.touched(0));
            }
            Check.same("12: none beside it", 0, star.touched(i));
        }
        Refusal.none("12: asking", Books::busyTyping, b -> b.touched(Books.ACCEPTED));
    }
}
