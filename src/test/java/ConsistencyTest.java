import java.lang.reflect.Array;
import java.lang.reflect.Field;
import java.util.List;

/** Promise 42: isConsistent is true of every book, and would tell one that was damaged inside. */
final class ConsistencyTest {
    public static void main(String[] args) throws Exception {
        Check.yes("42: a new book", new SpecBoard().isConsistent());
        Check.yes("42: a book in use", inUse().isConsistent());
        Check.yes("42: a full book", full().isConsistent());
        Check.yes("42: a book of the least numbers", least().isConsistent());
        damaged("wishes", 0, "name", "Capital");
        damaged("wishes", 0, "name", "b");
        damaged("wishes", 0, "name", "");
        damaged("wishes", 0, "name", "abcdefghi");
        damaged("wishes", 0, "cost", 51);
        damaged("wishes", 0, "cost", 0);
        damaged("wishes", 0, "value", -1);
        damaged("wishes", 0, "value", 100);
        damaged("wishes", 0, "state", 'x');
        damaged("wishes", 0, "state", 'p');
        damaged("wishes", 1, "state", 'p');
        damaged("wishes", 1, "state", 'a');
        damaged("wishes", 0, "release", 1);
        damaged("wishes", 2, "release", 3);
        damaged("wishes", 2, "release", 6);
        damaged("wishes", 2, "release", -2);
        damaged("wishes", 0, "parent", 0);
        damaged("wishes", 0, "parent", 9);
        damaged("wishes", 2, "parent", 3);
        damaged("wishes", 3, "needs", 1);
        damaged("wishes", 3, "excludes", 1);
        damaged("wishes", 3, "excludes", 8);
        damaged("wishes", 1, "excludes", 0);
        damaged("wishes", 0, "needs", 9);
        damaged("wishes", 0, "needs", 1 << 4);
        damaged("wishes", 0, "needs", Integer.MIN_VALUE);
        damaged("wishes", 0, "excludes", 1 << 1 | 1 << 4);
        damaged("wishes", 0, "excludes", 1 << 1 | Integer.MIN_VALUE);
        damaged("tests", 0, "covers", 1 << 9);
        damaged("tests", 0, "covers", 1 << 9 | 1 << 1);
        damaged("tests", 1, "covers", 1 << 4);
        damaged("tests", 0, "covers", 1);
        damaged("releases", 0, "shipped", false);
        damaged("releases", 1, "shipped", true);
        damaged("releases", 2, "shipped", true);
        damaged("releases", 1, "capacity", 501);
        damaged("releases", 1, "capacity", 1);
        damaged("releases", 1, "capacity", 0);
        damaged("releases", 2, "capacity", 0);
        damaged("risks", 0, "firstChance", 1001);
        damaged("risks", 0, "firstChance", -1);
        damaged("risks", 0, "harm", -1);
        damagedCount(0, 1);
        damagedCount(0, -1);
        damagedCount(1, 2);
        damagedResult(2, 'x');
        damagedResult(2, (char) 0);
        damagedResult(3, 'p');
        damagedResult(3, 'f');
        damagedResult(5, 'x');
        damagedEffect(0, "wish", -1);
        damagedEffect(0, "wish", 4);
        damagedEffect(0, "amount", 0);
        damagedEffect(0, "amount", 101);
        damagedEffect(1, "wish", 4);
        damagedEffect(1, "amount", 0);
        damagedEffect(1, "amount", 1001);
        sevenEffects();
        tooMany("wishes");
        tooMany("tests");
        tooMany("releases");
        tooMany("risks");
        tooMany("baselines");
        Check.end();
    }

    /** Wish 0 is accepted, 1 is shipped with 0, 2 is planned for 1, 3 is new; release 2 is empty. */
    private static SpecBoard inUse() {
        SpecBoard book = new SpecBoard();
        Books.wish(book, "a", 2, 1);
        Books.wish(book, "b", 2, 1);
        Books.wish(book, "c", 2, 1);
        Books.wish(book, "d", 2, 1);
        book.addRelease(9);
        book.addRelease(9);
        book.addRelease(9);
        book.accept(0);
        book.accept(1);
        book.accept(2);
        Books.ship(book, 1, 0);
        book.plan(2, 1);
        book.addTest();
        book.refine(3, 2);
        book.need(0, 3);
        book.exclude(0, 1);
        book.addRisk(500, 10);
        book.lower(0, 1, 100);
        book.raise(0, 3, 1000);
        return book;
    }

    private static SpecBoard full() {
        SpecBoard book = Books.withAccepted(16);
        for (int i = 0; i < 6; i++) {
            book.addRelease(500);
        }
        for (int i = 0; i < 8; i++) {
            book.addRisk(1000, 9999);
        }
        for (int i = 0; i < 5; i++) {
            book.makeBaseline();
        }
        for (int i = 0; i < 16; i++) {
            Books.passedTest(book, i, 0);
            book.plan(i, 0);
        }
        Books.type(book, "abcdefgh");
        book.ship(0);
        return book;
    }

    private static SpecBoard least() {
        SpecBoard book = new SpecBoard();
        Books.wish(book, "abcdefgh", 1, 0);
        book.addRelease(1);
        book.accept(0);
        book.plan(0, 0);
        book.addRisk(0, 0);
        for (int i = 0; i < 3; i++) {
            book.lower(0, 0, 1);
            book.raise(0, 0, 1);
        }
        return book;
    }

    private static void damaged(String list, int index, String field, Object value) throws Exception {
        SpecBoard book = inUse();
        Object part = listOf(book, list).get(index);
        fieldOf(part, field).set(part, value);
        Check.no("42: " + field + " " + index + " is " + value, book.isConsistent());
    }

    private static void damagedCount(int wish, int count) throws Exception {
        SpecBoard book = inUse();
        Object release = listOf(book, "releases").get(0);
        Array.setInt(fieldOf(release, "passedCounts").get(release), wish, count);
        Check.no("42: a passed count of " + count, book.isConsistent());
    }

    /** Puts the first of a full list in once more. */
    private static void tooMany(String list) throws Exception {
        SpecBoard book = full();
        listOf(book, list).add(listOf(book, list).get(0));
        Check.no("42: one more of " + list, book.isConsistent());
    }

    private static void damagedResult(int release, char result) throws Exception {
        SpecBoard book = inUse();
        Object test = listOf(book, "tests").get(1);
        Array.setChar(fieldOf(test, "results").get(test), release, result);
        Check.no("42: the result " + (int) result + " for release " + release, book.isConsistent());
    }

    /** Effect 0 lowers, effect 1 raises. */
    private static void damagedEffect(int index, String field, Object value) throws Exception {
        SpecBoard book = inUse();
        Object effect = listOf(listOf(book, "risks").get(0), "effects").get(index);
        fieldOf(effect, field).set(effect, value);
        Check.no("42: " + field + " of effect " + index + " is " + value, book.isConsistent());
    }

    private static void sevenEffects() throws Exception {
        SpecBoard book = inUse();
        List<Object> effects = listOf(listOf(book, "risks").get(0), "effects");
        while (effects.size() < 7) {
            effects.add(effects.get(0));
        }
        Check.no("42: seven effects", book.isConsistent());
    }

    @SuppressWarnings("unchecked")
    private static List<Object> listOf(Object owner, String list) throws Exception {
        return (List<Object>) fieldOf(owner, list).get(owner);
    }

    private static Field fieldOf(Object part, String name) throws Exception {
        Field field = part.getClass().getDeclaredField(name);
        field.setAccessible(true);
        return field;
    }
}
