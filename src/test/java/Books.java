/** Makes books that the tests of the project begin with. */
final class Books {
    /** The wishes of a busy book and of a full one, by their states. */
    static final int NEW = 0;
    static final int ACCEPTED = 1;
    static final int PLANNED = 2;
    static final int SHIPPED = 3;
    static final int DROPPED = 4;

    /** Their releases: one was shipped, one holds a planned wish, one has room for cost 2 alone. */
    static final int GONE = 0;
    static final int OPEN = 1;
    static final int TIGHT = 2;

    private Books() {
    }

    /** A book with a wish in each state, links of all kinds, results, risks, baselines and a line. */
    static SpecBoard busy() {
        SpecBoard book = new SpecBoard();
        wish(book, "new", 5, 10);
        wish(book, "house", 20, 99);
        wish(book, "door", 7, 30);
        wish(book, "roof", 4, 0);
        wish(book, "tower", 50, 50);
        wish(book, "f", 3, 8);
        book.makeBaseline();
        book.accept(ACCEPTED);
        book.accept(PLANNED);
        book.accept(SHIPPED);
        book.accept(5);
        book.addRelease(10);
        book.addRelease(30);
        book.addRelease(2);
        ship(book, SHIPPED, GONE);
        book.plan(PLANNED, OPEN);
        book.drop(DROPPED);
        book.cover(book.addTest(), PLANNED);
        book.result(1, OPEN, 'f');
        book.addTest();
        book.refine(PLANNED, ACCEPTED);
        book.refine(DROPPED, ACCEPTED);
        book.need(5, SHIPPED);
        book.need(ACCEPTED, 5);
        book.exclude(NEW, ACCEPTED);
        book.addRisk(900, 5000);
        book.lower(0, SHIPPED, 15);
        book.raise(0, DROPPED, 300);
        book.raise(0, ACCEPTED, 50);
        book.addRisk(1, 9999);
        book.makeBaseline();
        book.writeWish(PLANNED);
        return book;
    }

    /** The same, with two letters in the text buffer. */
    static SpecBoard busyTyping() {
        SpecBoard book = busy();
        type(book, "do");
        return book;
    }

    /** A busy book that has no room for any more of anything. */
    static SpecBoard full() {
        SpecBoard book = busy();
        for (int i = 6; i < 15; i++) {
            wish(book, "" + (char) ('g' + i), i, i);
        }
        wish(book, "abcdefgh", 50, 99);
        for (int i = 3; i < 16; i++) {
            book.cover(book.addTest(), i);
        }
        for (int i = 3; i < 6; i++) {
            book.addRelease(500);
        }
        for (int i = 2; i < 8; i++) {
            book.addRisk(100 * i, 1000 * i);
        }
        for (int i = 0; i < 8; i++) {
            for (int j = i == 0 ? 3 : 0; j < 6; j += 2) {
                book.lower(i, SHIPPED, 10 + i);
            }
            for (int j = i == 0 ? 4 : 1; j < 6; j += 2) {
                book.raise(i, j, 20 + i);
            }
        }
        for (int i = 2; i < 5; i++) {
            book.makeBaseline();
        }
        return book;
    }

    /** The same, with as many letters in the text buffer as it takes. */
    static SpecBoard fullTyping() {
        SpecBoard book = full();
        type(book, "abcdefgh");
        return book;
    }

    static void type(SpecBoard book, String text) {
        for (int i = 0; i < text.length(); i++) {
            book.type(text.charAt(i));
        }
    }

    static int wish(SpecBoard book, String name, int cost, int value) {
        type(book, name);
        return book.addWish(cost, value);
    }

    /** A book with this many new wishes of cost 1 and value 1, named a, b, c and so on. */
    static SpecBoard withWishes(int count) {
        SpecBoard book = new SpecBoard();
        for (int i = 0; i < count; i++) {
            wish(book, "" + (char) ('a' + i), 1, 1);
        }
        return book;
    }

    /** The same, all of them accepted. */
    static SpecBoard withAccepted(int count) {
        SpecBoard book = withWishes(count);
        for (int i = 0; i < count; i++) {
            book.accept(i);
        }
        return book;
    }

    /** Adds a test that covers a wish and has passed for a release. */
    static int passedTest(SpecBoard book, int wish, int release) {
        int test = book.addTest();
        book.cover(test, wish);
        book.result(test, release, 'p');
        return test;
    }

    /** Plans an accepted wish, has it covered, and ships the release. */
    static void ship(SpecBoard book, int wish, int release) {
        book.plan(wish, release);
        passedTest(book, wish, release);
        book.ship(release);
    }

    static String lineOf(SpecBoard book, int length) {
        StringBuilder text = new StringBuilder();
        for (int i = 0; i < length; i++) {
            text.append(book.lineAt(i));
        }
        return text.toString();
    }
}
