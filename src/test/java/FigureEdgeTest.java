import java.util.NoSuchElementException;

/** The edges of promises 34 to 42, sentence by sentence, and of the 512 calls of an object. */
final class FigureEdgeTest {
    private static final Class<IllegalArgumentException> ARGUMENT = IllegalArgumentException.class;
    private static final Class<IllegalStateException> STATE = IllegalStateException.class;
    private static final Class<NoSuchElementException> NO_ELEMENT = NoSuchElementException.class;
    private static final Class<ArithmeticException> ARITHMETIC = ArithmeticException.class;

    private static final String KINDS = "wtr";

    public static void main(String[] args) {
        makeBaselineFive();
        differencesOfNumbers();
        differencesOfEachPart();
        differencesOfReturning();
        openEndsOfNothing();
        openEndsOfEverything();
        openEndsOfWishes();
        openEndsOfEachWish();
        openEndsOfTestsAndRisks();
        openEndsOtherCharacters();
        openAtIndexes();
        openAtFirstListed();
        writeWishOfEachState();
        writeWishShortestAndLongest();
        writeWishInPlaceOfTheLineBefore();
        lineAtEdges();
        meanChanceOfNumbers();
        coveredShareOfNone();
        coveredShareOfNumbers();
        consistent();
        theLastOf512Calls();
        askingChangesNothing();
        Check.end();
    }

    // ---- 34 and 35: makeBaseline, differences

    /** "if there are 5 baselines". */
    private static void makeBaselineFive() {
        SpecBoard book = new SpecBoard();
        for (int i = 0; i < 5; i++) {
            Check.same("34: number", i, book.makeBaseline());
        }
        Check.fails("34: a sixth", STATE, book::makeBaseline);
        Refusal.of("34: a sixth", STATE, Books::fullTyping, SpecBoard::makeBaseline);
        Refusal.of("34: a sixth, no wishes", STATE, () -> {
            SpecBoard five = new SpecBoard();
            for (int i = 0; i < 5; i++) {
                five.makeBaseline();
            }
            return five;
        }, SpecBoard::makeBaseline);
    }

    /** "or if the wish was there for only one of them": from 0 to 16 of them. */
    private static void differencesOfNumbers() {
        int[] counts = {0, 1, 8, 15, 16};
        SpecBoard book = new SpecBoard();
        for (int i = 0; i < 5; i++) {
            for (int j = i == 0 ? 0 : counts[i - 1]; j < counts[i]; j++) {
                Books.wish(book, "" + (char) ('a' + j), 1, 1);
            }
            book.makeBaseline();
        }
        for (int i = 0; i < 5; i++) {
            for (int j = 0; j < 5; j++) {
                int due = Math.abs(counts[i] - counts[j]);
                Check.same("35: " + counts[i] + " and " + counts[j], due, book.differences(i, j));
            }
        }
    }

    private interface Change {
        void make(SpecBoard book);
    }

    private static void differs(String what, int due, Change change) {
        SpecBoard book = Books.withAccepted(16);
        for (int i = 0; i < 6; i++) {
            book.addRelease(500);
        }
        book.addTest();
        book.plan(1, 0);
        book.plan(2, 1);
        book.makeBaseline();
        change.make(book);
        book.makeBaseline();
        Check.same("35: " + what, due, book.differences(0, 1));
        Check.same("35: the other way, " + what, due, book.differences(1, 0));
        Check.same("35: with itself, " + what, 0, book.differences(1, 1));
    }

    /** "its state, its parent and its release": each alone, and nothing else. */
    private static void differencesOfEachPart() {
        differs("nothing", 0, b -> { });
        differs("a state", 1, b -> b.drop(15));
        differs("a parent", 1, b -> b.refine(15, 14));
        differs("the first parent", 1, b -> b.refine(15, 0));
        differs("a parent of the first", 1, b -> b.refine(0, 15));
        differs("a state and a release", 1, b -> b.plan(15, 5));
        differs("all three", 1, b -> {
            b.plan(15, 5);
            b.refine(15, 0);
        });
        differs("a release alone, 0 to 5", 1, b -> {
            b.unplan(1);
            b.plan(1, 5);
        });
        differs("a release alone, 1 to 0", 1, b -> {
            b.unplan(2);
            b.plan(2, 0);
        });
        differs("shipped, the release is the same", 1, b -> {
            b.cover(0, 1);
            b.result(0, 0, 'p');
            b.ship(0);
        });
        differs("sixteen", 16, b -> {
            for (int i = 0; i < 16; i++) {
                b.drop(i);
            }
        });
        differs("needs, exclusions, tests and risks", 0, b -> {
            b.need(0, 1);
            b.exclude(0, 1);
            b.cover(0, 0);
            b.result(0, 0, 'p');
            b.lower(b.addRisk(1, 1), 0, 1);
        });
    }

    /** What was changed and changed back makes no difference. */
    private static void differencesOfReturning() {
        differs("planned and unplanned", 0, b -> {
            b.plan(15, 5);
            b.unplan(15);
        });
        differs("unplanned and planned", 0, b -> {
            b.unplan(1);
            b.plan(1, 0);
        });
    }

    // ---- 36 and 37: openEnds, openAt

    private static void openEndsOfNothing() {
        for (char kind : KINDS.toCharArray()) {
            SpecBoard book = new SpecBoard();
            Check.same("36: none of " + kind, 0, book.openEnds(kind));
            Refusal.ofEach("37: none of " + kind, NO_ELEMENT, SpecBoard::new, Edges.outside(0, -1),
                (b, n) -> b.openAt(kind, n));
        }
    }

    private static SpecBoard allOpen() {
        SpecBoard book = Books.withAccepted(16);
        for (int i = 0; i < 16; i++) {
            book.addTest();
        }
        for (int i = 0; i < 8; i++) {
            book.addRisk(1, 1);
        }
        return book;
    }

    /** All of a kind are open ends, "0 for the one with the lowest number". */
    private static void openEndsOfEverything() {
        SpecBoard book = allOpen();
        for (char kind : KINDS.toCharArray()) {
            int count = kind == 'r' ? 8 : 16;
            Check.same("36: all of " + kind, count, book.openEnds(kind));
            for (int i = 0; i < count; i++) {
                Check.same("37: " + kind + " " + i, i, book.openAt(kind, i));
            }
            Refusal.ofEach("37: behind all of " + kind, NO_ELEMENT, FigureEdgeTest::allOpen,
                Edges.outside(0, count - 1), (b, n) -> b.openAt(kind, n));
        }
    }

    /** "accepted or planned, are covered by no test and have no children that are not dropped". */
    private static void openEndsOfWishes() {
        SpecBoard book = Books.busy();
        Check.same("36: one has a child, one a test", 1, book.openEnds('w'));
        Check.same("37: the one left", 5, book.openAt('w', 0));
        book.drop(Books.PLANNED);
        Check.same("36: both its children are dropped", 2, book.openEnds('w'));
        Check.same("37: the parent first", Books.ACCEPTED, book.openAt('w', 0));
        Check.same("37: then the other", 5, book.openAt('w', 1));
        book.accept(Books.NEW);
        Check.same("37: a new one that is accepted comes first", Books.NEW, book.openAt('w', 0));
        book.refine(Books.SHIPPED, 5);
        Check.same("36: a shipped child is a child", 2, book.openEnds('w'));
        book.plan(Books.ACCEPTED, Books.OPEN);
        Check.same("36: a planned one", 2, book.openEnds('w'));
        book.cover(2, Books.ACCEPTED);
        Check.same("36: a test without a result covers it", 1, book.openEnds('w'));
        book.result(2, Books.OPEN, 'f');
        Check.same("36: and a failed one", 1, book.openEnds('w'));
        book.drop(Books.NEW);
        Check.same("36: none is left", 0, book.openEnds('w'));
        Check.fails("37: none is left", NO_ELEMENT, () -> book.openAt('w', 0));
        SpecBoard fresh = Books.withWishes(16);
        Check.same("36: new ones are none", 0, fresh.openEnds('w'));
        fresh.accept(15);
        Check.same("36: the last", 1, fresh.openEnds('w'));
        Check.same("37: the last", 15, fresh.openAt('w', 0));
    }

    /** Each of sixteen wishes in turn has a child, and is covered by each of sixteen tests. */
    private static void openEndsOfEachWish() {
        for (int i = 0; i < 16; i++) {
            SpecBoard parent = allOpen();
            parent.refine((i + 1) % 16, i);
            Check.same("36: " + i + " has a child", 15, parent.openEnds('w'));
            Check.same("37: the first without a child", i == 0 ? 1 : 0, parent.openAt('w', 0));
            parent.drop((i + 1) % 16);
            Check.same("36: the child is dropped", 15, parent.openEnds('w'));
            SpecBoard covered = allOpen();
            covered.cover(15 - i, i);
            Check.same("36: " + i + " is covered", 15, covered.openEnds('w'));
            Check.same("37: the last uncovered", i == 15 ? 14 : 15, covered.openAt('w', 14));
        }
    }

    /** "'t' for tests that cover nothing; 'r' for risks without effects". */
    private static void openEndsOfTestsAndRisks() {
        SpecBoard book = allOpen();
        for (int i = 0; i < 15; i++) {
            book.cover(i, 15 - i);
            Check.same("36: tests left", 15 - i, book.openEnds('t'));
            Check.same("37: the first test left", i + 1, book.openAt('t', 0));
        }
        Check.fails("37: the last is the only one", NO_ELEMENT, () -> book.openAt('t', 1));
        book.cover(15, 0);
        Check.same("36: no test left", 0, book.openEnds('t'));
        for (int i = 7; i > 0; i--) {
            int effects = i % 2 == 0 ? book.lower(i, 15, 1) : book.raise(i, 15, 1);
            Check.same("36: one effect", 1, effects);
            Check.same("36: risks left", i, book.openEnds('r'));
            Check.same("37: the last risk left", i - 1, book.openAt('r', i - 1));
        }
        book.raise(0, 0, 1000);
        Check.same("36: no risk left", 0, book.openEnds('r'));
    }

    /** "if there is no such kind": all the other characters there are. */
    private static void openEndsOtherCharacters() {
        Edges.allOtherCharacters("36: openEnds", KINDS, ARGUMENT, FigureEdgeTest::allOpen, SpecBoard::openEnds);
        Edges.allOtherCharacters("37: openAt", KINDS, ARGUMENT, FigureEdgeTest::allOpen, (b, c) -> b.openAt(c, 0));
        int[] some = {0, ' ', 'a', 'W', 'T', 'R', 'w' + 1, 'w' - 1, 't' + 1, 't' - 1, 'r' + 1, 'r' - 1,
            'w' + 256, 't' + 256, 'r' + 256, 0x8000 + 'w', 65535};
        Refusal.ofEach("36: no kind", ARGUMENT, Books::busyTyping, some, (b, n) -> b.openEnds((char) n));
        Refusal.ofEach("36: no kind, empty", ARGUMENT, SpecBoard::new, some, (b, n) -> b.openEnds((char) n));
        Refusal.ofEach("37: no kind", ARGUMENT, Books::busyTyping, some, (b, n) -> b.openAt((char) n, 0));
    }

    /** "if there is no such index", behind the open ends, but before the number of all things. */
    private static void openAtIndexes() {
        for (char kind : KINDS.toCharArray()) {
            SpecBoard book = Books.busyTyping();
            Check.same("36: one of " + kind, 1, book.openEnds(kind));
            Check.same("37: the one of " + kind, kind == 'w' ? 5 : kind == 't' ? 2 : 1, book.openAt(kind, 0));
            Refusal.ofEach("37: behind the one of " + kind, NO_ELEMENT, Books::busyTyping, Edges.outside(0, 0),
                (b, n) -> b.openAt(kind, n));
        }
    }

    /** "the exception that is listed first": no such kind comes before no such index. */
    private static void openAtFirstListed() {
        int[] wrong = Edges.outside(0, 0);
        for (char kind : new char[] {0, 'x', 'W', 'w' + 256, 65535}) {
            Refusal.ofEach("37: neither kind nor index", ARGUMENT, Books::busyTyping, wrong,
                (b, n) -> b.openAt(kind, n));
            Refusal.ofEach("37: neither kind nor index, empty", ARGUMENT, SpecBoard::new, new int[] {0, -1, 1},
                (b, n) -> b.openAt(kind, n));
        }
    }

    // ---- 38 and 39: writeWish, lineAt

    private static void line(String due, SpecBoard book, int wish) {
        Check.same("38: the length of " + due, due.length(), book.writeWish(wish));
        Check.same("38: the line", due, Books.lineOf(book, due.length()));
        for (int wrong : new int[] {due.length(), due.length() + 1, -1}) {
            Check.fails("39: beside " + due, IndexOutOfBoundsException.class, () -> book.lineAt(wrong));
        }
    }

    /** Its state, with and without a parent; releases 0 to 5. */
    private static void writeWishOfEachState() {
        String[] due = {"new: new", "house: accepted", "door: planned for 1, refines house",
            "roof: shipped with 0", "tower: dropped, refines house", "f: accepted"};
        SpecBoard book = Books.busy();
        for (int i = 0; i < due.length; i++) {
            line(due[i], book, i);
        }
        book.refine(Books.NEW, Books.SHIPPED);
        line("new: new, refines roof", book, Books.NEW);
        book.refine(Books.SHIPPED, Books.DROPPED);
        line("roof: shipped with 0, refines tower", book, Books.SHIPPED);
        book.refine(5, Books.PLANNED);
        line("f: accepted, refines door", book, 5);
        SpecBoard releases = Books.withAccepted(16);
        for (int i = 0; i < 6; i++) {
            releases.addRelease(1);
            releases.plan(15, i);
            line("p: planned for " + i, releases, 15);
            releases.unplan(15);
        }
        line("p: accepted", releases, 15);
    }

    /** Names of 1 and of 8 letters, of the wish and of its parent. */
    private static void writeWishShortestAndLongest() {
        SpecBoard book = new SpecBoard();
        Books.wish(book, "a", 1, 1);
        Books.wish(book, "abcdefgh", 1, 1);
        Books.wish(book, "zyxwvuts", 1, 1);
        line("a: new", book, 0);
        line("abcdefgh: new", book, 1);
        for (int i = 0; i < 6; i++) {
            book.addRelease(1);
        }
        book.refine(1, 2);
        book.refine(2, 0);
        book.accept(1);
        book.plan(1, 5);
        line("abcdefgh: planned for 5, refines zyxwvuts", book, 1);
        Books.passedTest(book, 1, 5);
        book.ship(5);
        line("abcdefgh: shipped with 5, refines zyxwvuts", book, 1);
        line("zyxwvuts: new, refines a", book, 2);
    }

    /** "in place of the line before": nothing of a longer one stays. */
    private static void writeWishInPlaceOfTheLineBefore() {
        SpecBoard book = Books.busy();
        Check.same("38: a long line", 34, book.writeWish(Books.PLANNED));
        line("new: new", book, Books.NEW);
        line("door: planned for 1, refines house", book, Books.PLANNED);
        book.drop(Books.PLANNED);
        Check.same("39: it stays as it was written", 'p', book.lineAt(6));
        Check.same("39: to its end", 'e', book.lineAt(33));
        Books.type(book, "abc");
        line("door: dropped, refines house", book, Books.PLANNED);
        Check.same("38: the text is another thing", 4, book.type('d'));
    }

    /** "which is empty at first"; the first, the last, and those outside. */
    private static void lineAtEdges() {
        Class<IndexOutOfBoundsException> noIndex = IndexOutOfBoundsException.class;
        Refusal.ofEach("39: an empty line", noIndex, () -> Books.withAccepted(16), Edges.outside(0, -1), SpecBoard::lineAt);
        Refusal.ofEach("39: a text is no line", noIndex, () -> {
            SpecBoard book = new SpecBoard();
            Books.type(book, "abcdefgh");
            return book;
        }, Edges.outside(0, -1), SpecBoard::lineAt);
        Refusal.ofEach("39: a refused writeWish writes none", noIndex, () -> {
            SpecBoard book = Books.withWishes(1);
            Check.fails("38: no wish", noIndex, () -> book.writeWish(1));
            return book;
        }, Edges.outside(0, -1), SpecBoard::lineAt);
        SpecBoard book = Books.withWishes(1);
        book.writeWish(0);
        Check.same("39: the first", 'a', book.lineAt(0));
        Check.same("39: the last", 'w', book.lineAt(5));
        Refusal.ofEach("39: outside", noIndex, () -> {
            SpecBoard written = Books.withWishes(1);
            written.writeWish(0);
            return written;
        }, Edges.outside(0, 5), SpecBoard::lineAt);
    }

    // ---- 40 and 41: meanChance, coveredShare

    /** "the sum of their chances, converted to double, divided by their number": 0, and 1 to 8. */
    private static void meanChanceOfNumbers() {
        Refusal.of("40: no risks", ARITHMETIC, SpecBoard::new, SpecBoard::meanChance);
        Refusal.of("40: no risks, sixteen wishes", ARITHMETIC, () -> Books.withAccepted(16), SpecBoard::meanChance);
        SpecBoard most = new SpecBoard();
        SpecBoard least = new SpecBoard();
        SpecBoard mixed = new SpecBoard();
        int sum = 0;
        for (int i = 1; i <= 8; i++) {
            most.addRisk(1000, 0);
            least.addRisk(0, 9999);
            mixed.addRisk(111 * i + 1, i);
            sum += 111 * i + 1;
            Check.same("40: the most of " + i, 1000.0, most.meanChance());
            Check.same("40: the least of " + i, 0.0, least.meanChance());
            Check.same("40: of " + i, (double) sum / (double) i, mixed.meanChance());
        }
        SpecBoard three = new SpecBoard();
        three.addRisk(1, 1);
        three.addRisk(0, 1);
        three.addRisk(0, 1);
        Check.same("40: a third", 1.0 / 3.0, three.meanChance());
    }

    /** "if it has no wishes". */
    private static void coveredShareOfNone() {
        Refusal.of("41: no wishes", ARITHMETIC, Books::busyTyping, b -> b.coveredShare(Books.TIGHT));
        Refusal.ofEach("41: no wishes, full", ARITHMETIC, Books::fullTyping, new int[] {Books.TIGHT, 5},
            SpecBoard::coveredShare);
        Refusal.of("41: an empty book", ARITHMETIC, () -> {
            SpecBoard book = new SpecBoard();
            book.addRelease(1);
            return book;
        }, b -> b.coveredShare(0));
        SpecBoard book = Books.busy();
        Check.same("41: one", 0.0f, book.coveredShare(Books.OPEN));
        book.unplan(Books.PLANNED);
        Check.fails("41: unplanned", ARITHMETIC, () -> book.coveredShare(Books.OPEN));
        book.plan(Books.PLANNED, Books.OPEN);
        book.drop(Books.PLANNED);
        Check.fails("41: dropped", ARITHMETIC, () -> book.coveredShare(Books.OPEN));
    }

    /** "their number divided by the number of its wishes, both converted to float": 1 to 16. */
    private static void coveredShareOfNumbers() {
        for (int count = 1; count <= 16; count++) {
            SpecBoard book = Books.withAccepted(16);
            book.addRelease(16);
            book.addTest();
            book.result(0, 0, 'p');
            for (int i = 0; i < count; i++) {
                book.plan(15 - i, 0);
            }
            for (int i = 0; i <= count; i++) {
                float due = (float) i / (float) count;
                Check.same("41: " + i + " of " + count, due, book.coveredShare(0));
                if (i < count) {
                    book.cover(0, 15 - i);
                }
            }
            book.ship(0);
            Check.same("41: shipped", 1.0f, book.coveredShare(0));
        }
        SpecBoard later = Books.busy();
        Check.same("41: shipped, covered", 1.0f, later.coveredShare(Books.GONE));
        Check.same("41: an uncovered child comes", 1, later.refine(Books.NEW, Books.SHIPPED));
        Check.same("41: its own test is enough", 1.0f, later.coveredShare(Books.GONE));
    }

    // ---- 42: isConsistent, and the number of calls

    private static void consistent() {
        Check.yes("42: an empty book", new SpecBoard().isConsistent());
        Check.yes("42: a busy book", Books.busyTyping().isConsistent());
        Check.yes("42: a full book", Books.fullTyping().isConsistent());
        Check.yes("42: all open", allOpen().isConsistent());
        SpecBoard least = Books.withAccepted(1);
        least.addRelease(1);
        least.addRisk(0, 0);
        Check.yes("42: the least numbers", least.isConsistent());
        least.plan(0, 0);
        Check.yes("42: no capacity is left", least.isConsistent());
        Books.passedTest(least, 0, 0);
        least.ship(0);
        Check.yes("42: shipped", least.isConsistent());
        least.need(0, Books.wish(least, "z", 50, 99));
        least.exclude(0, 1);
        least.refine(1, 0);
        Check.yes("42: new links of a shipped wish", least.isConsistent());
        SpecBoard book = Books.full();
        for (int i = 0; i < 16; i++) {
            if (i != Books.SHIPPED && i != Books.DROPPED) {
                book.drop(i);
            }
        }
        Check.yes("42: all dropped", book.isConsistent());
        Refusal.none("42: asking", Books::busyTyping, SpecBoard::isConsistent);
    }

    /** "An object is used for at most 512 calls": the last of them answers as the first would. */
    private static void theLastOf512Calls() {
        SpecBoard book = new SpecBoard();
        for (int i = 1; i < 510; i += 3) {
            Check.same("512: type", 1, book.type('a'));
            Check.fails("512: addWish", ARGUMENT, () -> book.addWish(0, 0));
            Check.same("512: exposure", 0L, book.exposure());
        }
        Check.same("512: call 511", 1, book.type('z'));
        Check.same("512: call 512", 0, book.addWish(50, 99));
        SpecBoard tried = Books.withAccepted(16);
        tried.addRelease(16);
        for (int i = 50; i < 511; i++) {
            Check.same("512: bestValue", 16, tried.bestValue(0));
        }
        Check.same("512: call 511", 16, tried.bestValueByTrying(0));
        Check.same("512: call 512", 15, tried.plan(15, 0));
    }

    private static void askingChangesNothing() {
        Refusal.none("35: asking", Books::busyTyping, b -> b.differences(0, 1));
        Refusal.none("36: asking", Books::busyTyping, b -> b.openEnds('w'));
        Refusal.none("37: asking", Books::busyTyping, b -> b.openAt('w', 0));
        Refusal.none("39: asking", Books::busyTyping, b -> b.lineAt(0));
        Refusal.none("40: asking", Books::busyTyping, SpecBoard::meanChance);
        Refusal.none("41: asking", Books::busyTyping, b -> b.coveredShare(Books.OPEN));
    }
}
