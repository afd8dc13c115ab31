/** Makes books that the tests of the project begin with. */
final class Books {
    private Books() {
    }

    static void type(SpecBoard book, String text) {
        for (int i = 0; i < text.length(); i++) {
            book.type(text.charAt(i));
        }
    }

    static int wish(SpecBoard book, String name, int cost, int value) {
        type(book, name);
        return book.addWish(cost, value);
    }

    /** A book with this many new wishes of cost 1 and value 1, named a, b, c and so on. */
    static SpecBoard withWishes(int count) {
        SpecBoard book = new SpecBoard();
        for (int i = 0; i < count; i++) {
            wish(book, "" + (char) ('a' + i), 1, 1);
        }
        return book;
    }

    /** The same, all of them accepted. */
    static SpecBoard withAccepted(int count) {
        SpecBoard book = withWishes(count);
        for (int i = 0; i < count; i++) {
            book.accept(i);
        }
        return book;
    }

    /** Adds a test that covers a wish and has passed for a release. */
    static int passedTest(SpecBoard book, int wish, int release) {
        int test = book.addTest();
        book.cover(test, wish);
        book.result(test, release, 'p');
        return test;
    }

    /** Plans an accepted wish, has it covered, and ships the release. */
    static void ship(SpecBoard book, int wish, int release) {
        book.plan(wish, release);
        passedTest(book, wish, release);
        book.ship(release);
    }

    static String lineOf(SpecBoard book, int length) {
        StringBuilder text = new StringBuilder();
        for (int i = 0; i < length; i++) {
            text.append(book.lineAt(i));
        }
        return text.toString();
    }
}
