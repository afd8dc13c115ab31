/**
 * "Throws IndexOutOfBoundsException if there is no such wish", test, release, risk, baseline or
 * character: for each promise that says so, on an empty book, a busy one and a full one, the last
 * number that there is and those outside, also where a later exception would be due as well.
 */
final class IndexEdgeTest {
    private static final Class<IndexOutOfBoundsException> NO_INDEX = IndexOutOfBoundsException.class;

    /** Of what a number is, and how many of it a busy book and a full one have. */
    private enum Kind {
        WISH(6, 16), TEST(3, 16), RELEASE(3, 6), RISK(2, 8), BASELINE(2, 5);

        final int inBusy;
        final int inFull;

        Kind(int inBusy, int inFull) {
            this.inBusy = inBusy;
            this.inFull = inFull;
        }
    }

    private interface Asked {
        Object on(SpecBoard book, int number);
    }

    public static void main(String[] args) {
        onWishes();
        onLinksOfWishes();
        onTests();
        onCoverage();
        onReleases();
        onPlans();
        onRisks();
        onEffects();
        onBaselines();
        onTheLine();
        Check.end();
    }

    private static void onWishes() {
        row("5: accept", Kind.WISH, SpecBoard::accept);
        row("6: drop", Kind.WISH, SpecBoard::drop);
        row("7: state", Kind.WISH, SpecBoard::state);
        row("11: parentOf", Kind.WISH, SpecBoard::parentOf);
        row("12: touched", Kind.WISH, SpecBoard::touched);
        row("21: unplan", Kind.WISH, SpecBoard::unplan);
        row("22: releaseOf", Kind.WISH, SpecBoard::releaseOf);
        row("33: changeByDropping", Kind.WISH, SpecBoard::changeByDropping);
        row("38: writeWish", Kind.WISH, SpecBoard::writeWish);
    }

    private static void onLinksOfWishes() {
        row("8: refine, the wish", Kind.WISH, (b, n) -> b.refine(n, 0));
        row("8: refine, the parent", Kind.WISH, (b, n) -> b.refine(0, n));
        row("8: refine, both", Kind.WISH, (b, n) -> b.refine(n, n));
        row("8: refine, the parent of one that has a parent", Kind.WISH,
            (b, n) -> b.refine(Books.PLANNED, n));
        row("9: need, the wish", Kind.WISH, (b, n) -> b.need(n, 0));
        row("9: need, the other", Kind.WISH, (b, n) -> b.need(0, n));
        row("9: need, both", Kind.WISH, (b, n) -> b.need(n, n));
        row("10: exclude, the wish", Kind.WISH, (b, n) -> b.exclude(n, 0));
        row("10: exclude, the other", Kind.WISH, (b, n) -> b.exclude(0, n));
        row("10: exclude, both the same", Kind.WISH, (b, n) -> b.exclude(n, n));
    }

    private static void onTests() {
        row("14: cover, the test", Kind.TEST, (b, n) -> b.cover(n, 0));
        row("14: cover, the wish", Kind.WISH, (b, n) -> b.cover(0, n));
        row("15: result, the test", Kind.TEST, (b, n) -> b.result(n, Books.OPEN, 'p'));
        row("15: result, the test, no such result", Kind.TEST, (b, n) -> b.result(n, Books.OPEN, 'x'));
        row("15: result, the test, a shipped release", Kind.TEST, (b, n) -> b.result(n, Books.GONE, 'p'));
        row("15: result, the test, all three", Kind.TEST, (b, n) -> b.result(n, Books.GONE, 'x'));
        row("15: result, the release", Kind.RELEASE, (b, n) -> b.result(0, n, 'p'));
        row("15: result, the release, no such result", Kind.RELEASE, (b, n) -> b.result(0, n, 'x'));
    }

    private static void onCoverage() {
        row("16: passed, the wish", Kind.WISH, (b, n) -> b.passed(n, 0));
        row("16: passed, the release", Kind.RELEASE, (b, n) -> b.passed(0, n));
        row("17: isCovered, the wish", Kind.WISH, (b, n) -> b.isCovered(n, 0));
        row("17: isCovered, the release", Kind.RELEASE, (b, n) -> b.isCovered(0, n));
        row("18: isCoveredFromLinks, the wish", Kind.WISH, (b, n) -> b.isCoveredFromLinks(n, 0));
        row("18: isCoveredFromLinks, the release", Kind.RELEASE, (b, n) -> b.isCoveredFromLinks(0, n));
    }

    private static void onReleases() {
        row("23: left", Kind.RELEASE, SpecBoard::left);
        row("24: reasonAgainst", Kind.RELEASE, SpecBoard::reasonAgainst);
        row("25: ship", Kind.RELEASE, SpecBoard::ship);
        row("26: bestValue", Kind.RELEASE, SpecBoard::bestValue);
        row("27: bestValueByTrying", Kind.RELEASE, SpecBoard::bestValueByTrying);
        row("41: coveredShare", Kind.RELEASE, SpecBoard::coveredShare);
    }

    private static void onPlans() {
        row("20: plan, the wish", Kind.WISH, (b, n) -> b.plan(n, Books.OPEN));
        row("20: plan, the wish, a shipped release", Kind.WISH, (b, n) -> b.plan(n, Books.GONE));
        row("20: plan, the release", Kind.RELEASE, (b, n) -> b.plan(Books.ACCEPTED, n));
        row("20: plan, the release, a new wish", Kind.RELEASE, (b, n) -> b.plan(Books.NEW, n));
        row("20: plan, the release, a planned wish", Kind.RELEASE, (b, n) -> b.plan(Books.PLANNED, n));
    }

    private static void onRisks() {
        row("31: chance", Kind.RISK, SpecBoard::chance);
    }

    /** In a full book each risk has 6 effects, so that every later exception is due as well. */
    private static void onEffects() {
        for (int amount : new int[] {1, 0, 1001}) {
            String what = " by " + amount;
            row("29: lower, the risk," + what, Kind.RISK, (b, n) -> b.lower(n, 0, amount));
            row("29: lower, the wish," + what, Kind.WISH, (b, n) -> b.lower(0, n, amount));
            row("30: raise, the risk," + what, Kind.RISK, (b, n) -> b.raise(n, 0, amount));
            row("30: raise, the wish," + what, Kind.WISH, (b, n) -> b.raise(0, n, amount));
        }
    }

    private static void onBaselines() {
        row("35: differences, the one", Kind.BASELINE, (b, n) -> b.differences(n, 0));
        row("35: differences, the other", Kind.BASELINE, (b, n) -> b.differences(0, n));
        row("35: differences, both", Kind.BASELINE, (b, n) -> b.differences(n, n));
    }

    /** "Throws IndexOutOfBoundsException if there is no such character", of an empty line too. */
    private static void onTheLine() {
        String line = "door: planned for 1, refines house";
        outside("39: lineAt of an empty line", SpecBoard::new, 0, SpecBoard::lineAt);
        outside("39: lineAt", Books::busyTyping, line.length(), SpecBoard::lineAt);
        Check.same("39: lineAt, the whole line", line, Books.lineOf(Books.busy(), line.length()));
    }

    private static void row(String what, Kind kind, Asked asked) {
        outside(what + " of an empty book", SpecBoard::new, 0, asked);
        outside(what + " of a busy book", Books::busyTyping, kind.inBusy, asked);
        outside(what + " of a full book", Books::fullTyping, kind.inFull, asked);
        inside(what + " of a busy book", Books.busyTyping(), kind.inBusy - 1, asked);
        inside(what + " of a full book", Books.fullTyping(), kind.inFull - 1, asked);
        inside(what + ", the first", Books.fullTyping(), 0, asked);
    }

    private static void outside(String what, Refusal.Recipe recipe, int count, Asked asked) {
        Refusal.ofEach(what, NO_INDEX, recipe, Edges.outside(0, count - 1), asked::on);
    }

    /** What is there may be refused for another reason, but not for this one. */
    private static void inside(String what, SpecBoard book, int number, Asked asked) {
        Check.no(what + ": there is " + number,
            Answers.outcomeOf(() -> asked.on(book, number)).equals(NO_INDEX.getName()));
    }
}
