import java.util.ArrayList;
import java.util.List;
import java.util.NoSuchElementException;

/**
 * A book of requirements.
 *
 * Sets of wishes are kept as numbers: bit w stands for wish w. There are at most 16 wishes, so a
 * closure over links is found by going over all wishes as often as there are wishes.
 */
public final class SpecBoard {
    private static final int NONE = -1;
    private static final int EMPTY = 0;

    private static final int MOST_LETTERS = 8;
    private static final int MOST_WISHES = 16;
    private static final int MOST_COST = 50;
    private static final int MOST_VALUE = 99;
    private static final int MOST_TESTS = 16;
    private static final int MOST_RELEASES = 6;
    private static final int MOST_CAPACITY = 500;
    private static final int MOST_RISKS = 8;
    private static final int MOST_CHANCE = 1000;
    private static final int MOST_HARM = 9999;
    private static final int MOST_EFFECTS = 6;
    private static final int MOST_PERCENTAGE = 100;
    private static final int MOST_BASELINES = 5;

    private static final char NEW = 'n';
    private static final char ACCEPTED = 'a';
    private static final char PLANNED = 'p';
    private static final char SHIPPED = 's';
    private static final char DROPPED = 'd';

    private static final char PASSED = 'p';
    private static final char FAILED = 'f';
    private static final char NO_RESULT = '-';

    private static final char WAS_SHIPPED = 's';
    private static final char NOTHING_PLANNED = 'e';
    private static final char NEED_IS_OPEN = 'd';
    private static final char WISHES_CLASH = 'c';
    private static final char NOT_COVERED = 't';
    private static final char NO_REASON = '-';

    private static final char OPEN_WISHES = 'w';
    private static final char OPEN_TESTS = 't';
    private static final char OPEN_RISKS = 'r';

    private final StringBuilder typed = new StringBuilder();
    private final StringBuilder line = new StringBuilder();
    private final List<Wish> wishes = new ArrayList<>();
    private final List<Test> tests = new ArrayList<>();
    private final List<Release> releases = new ArrayList<>();
    private final List<Risk> risks = new ArrayList<>();
    private final List<Baseline> baselines = new ArrayList<>();
    private final Choice choice = new Choice();

    public SpecBoard() {
    }

    // ---- wishes

    public int type(char character) throws IllegalArgumentException, IllegalStateException {
        if (!isLetter(character)) {
            throw new IllegalArgumentException("no letter from a to z");
        }
        if (typed.length() >= MOST_LETTERS) {
            throw new IllegalStateException("the text buffer is full");
        }
        typed.append(character);
        return typed.length();
    }

    public int addWish(int cost, int value) throws IllegalArgumentException, IllegalStateException {
        String name = typed.toString();
        typed.setLength(0);
        if (name.isEmpty() || !isWithin(cost, 1, MOST_COST) || !isWithin(value, 0, MOST_VALUE)) {
            throw new IllegalArgumentException("no name, or a number out of range");
        }
        if (numberOf(name) != NONE || wishes.size() >= MOST_WISHES) {
            throw new IllegalStateException("the name is taken, or there is no room for a wish");
        }
        wishes.add(new Wish(name, cost, value));
        return wishes.size() - 1;
    }

    public int wishNamed() throws NoSuchElementException {
        int found = numberOf(typed.toString());
        if (found == NONE) {
            throw new NoSuchElementException("no wish has this name");
        }
        return found;
    }

    public int accept(int wish) throws IndexOutOfBoundsException, IllegalStateException {
        Wish accepted = wishAt(wish);
        if (accepted.state != NEW) {
            throw new IllegalStateException("the wish is not new");
        }
        accepted.state = ACCEPTED;
        return Integer.bitCount(wishesIn(ACCEPTED));
    }

    public int drop(int wish) throws IndexOutOfBoundsException, IllegalStateException {
        Wish dropped = wishAt(wish);
        if (dropped.state == SHIPPED || dropped.state == DROPPED) {
            throw new IllegalStateException("the wish is shipped or dropped");
        }
        dropped.state = DROPPED;
        dropped.release = NONE;
        return Integer.bitCount(wishesIn(DROPPED));
    }

    public char state(int wish) throws IndexOutOfBoundsException {
        return wishAt(wish).state;
    }

    public int refine(int wish, int parent)
            throws IndexOutOfBoundsException, IllegalStateException, UnsupportedOperationException {
        Wish child = wishAt(wish);
        wishAt(parent);
        if (child.parent != NONE) {
            throw new IllegalStateException("the wish has a parent");
        }
        if (leadsUpTo(parent, wish)) {
            throw new UnsupportedOperationException("the wish would refine itself");
        }
        child.parent = parent;
        return Integer.bitCount(childrenOf(parent));
    }

    public int need(int wish, int other)
            throws IndexOutOfBoundsException, IllegalStateException, UnsupportedOperationException {
        Wish needing = wishAt(wish);
        wishAt(other);
        if (contains(needing.needs, other)) {
            throw new IllegalStateException("the wish needs the other one already");
        }
        if (contains(withAllNeeds(other), wish)) {
            throw new UnsupportedOperationException("the wish would need itself");
        }
        needing.needs |= bit(other);
        return Integer.bitCount(needing.needs);
    }

    public boolean exclude(int wish, int other)
            throws IndexOutOfBoundsException, IllegalArgumentException {
        Wish one = wishAt(wish);
        Wish two = wishAt(other);
        if (wish == other) {
            throw new IllegalArgumentException("a wish can't exclude itself");
        }
        boolean isNew = !contains(one.excludes, other);
        one.excludes |= bit(other);
        two.excludes |= bit(wish);
        return isNew;
    }

    public int parentOf(int wish) throws IndexOutOfBoundsException, NoSuchElementException {
        int parent = wishAt(wish).parent;
        if (parent == NONE) {
            throw new NoSuchElementException("the wish has no parent");
        }
        return parent;
    }

    public int touched(int wish) throws IndexOutOfBoundsException {
        wishAt(wish);
        return Integer.bitCount(withAllTouched(wish) & ~bit(wish));
    }

    // ---- tests

    public int addTest() throws IllegalStateException {
        if (tests.size() >= MOST_TESTS) {
            throw new IllegalStateException("there is no room for a test");
        }
        tests.add(new Test());
        return tests.size() - 1;
    }

    public int cover(int test, int wish) throws IndexOutOfBoundsException, IllegalStateException {
        Test covering = testAt(test);
        wishAt(wish);
        if (contains(covering.covers, wish)) {
            throw new IllegalStateException("the test covers the wish already");
        }
        covering.covers |= bit(wish);
        for (int i = 0; i < releases.size(); i++) {
            if (covering.resultFor(i) == PASSED) {
                releases.get(i).countPassed(bit(wish), 1);
            }
        }
        return Integer.bitCount(covering.covers);
    }

    public char result(int test, int release, char result)
            throws IndexOutOfBoundsException, IllegalArgumentException, IllegalStateException {
        Test judged = testAt(test);
        Release tested = releaseAt(release);
        if (!isResult(result)) {
            throw new IllegalArgumentException("no such result");
        }
        if (tested.shipped) {
            throw new IllegalStateException("the release was shipped");
        }
        char before = judged.resultFor(release);
        judged.setResultFor(release, result);
        if (before == PASSED) {
            tested.countPassed(judged.covers, -1);
        }
        if (result == PASSED) {
            tested.countPassed(judged.covers, 1);
        }
        return before;
    }

    public int passed(int wish, int release) throws IndexOutOfBoundsException {
        wishAt(wish);
        return releaseAt(release).passedOf(wish);
    }

    public boolean isCovered(int wish, int release) throws IndexOutOfBoundsException {
        wishAt(wish);
        return contains(coveredByCounts(releaseAt(release)), wish);
    }

    public boolean isCoveredFromLinks(int wish, int release) throws IndexOutOfBoundsException {
        wishAt(wish);
        releaseAt(release);
        return contains(coveredByLinks(release), wish);
    }

    // ---- releases

    public int addRelease(int capacity) throws IllegalArgumentException, IllegalStateException {
        if (!isWithin(capacity, 1, MOST_CAPACITY)) {
            throw new IllegalArgumentException("the capacity is out of range");
        }
        if (releases.size() >= MOST_RELEASES) {
            throw new IllegalStateException("there is no room for a release");
        }
        releases.add(new Release(capacity));
        return releases.size() - 1;
    }

    public int plan(int wish, int release)
            throws IndexOutOfBoundsException, IllegalStateException, UnsupportedOperationException {
        Wish planned = wishAt(wish);
        Release taking = releaseAt(release);
        if (planned.state != ACCEPTED || taking.shipped) {
            throw new IllegalStateException("the wish is not accepted, or the release was shipped");
        }
        if (planned.cost > roomIn(release)) {
            throw new UnsupportedOperationException("the wish costs more than is left");
        }
        planned.state = PLANNED;
        planned.release = release;
        return roomIn(release);
    }

    public int unplan(int wish) throws IndexOutOfBoundsException, IllegalStateException {
        Wish planned = wishAt(wish);
        if (planned.state != PLANNED) {
            throw new IllegalStateException("the wish is not planned");
        }
        int release = planned.release;
        planned.state = ACCEPTED;
        planned.release = NONE;
        return release;
    }

    public int releaseOf(int wish) throws IndexOutOfBoundsException, NoSuchElementException {
        int release = wishAt(wish).release;
        if (release == NONE) {
            throw new NoSuchElementException("the wish has no release");
        }
        return release;
    }

    public int left(int release) throws IndexOutOfBoundsException {
        return roomIn(release);
    }

    public char reasonAgainst(int release) throws IndexOutOfBoundsException {
        return firstReason(release);
    }

    public int ship(int release) throws IndexOutOfBoundsException, UnsupportedOperationException {
        Release leaving = releaseAt(release);
        if (firstReason(release) != NO_REASON) {
            throw new UnsupportedOperationException("there is a reason against shipping");
        }
        int planned = wishesOf(release);
        for (int i = 0; i < wishes.size(); i++) {
            if (contains(planned, i)) {
                wishes.get(i).state = SHIPPED;
            }
        }
        leaving.shipped = true;
        return Integer.bitCount(planned);
    }

    public int bestValue(int release) throws IndexOutOfBoundsException, IllegalStateException {
        if (releaseAt(release).shipped) {
            throw new IllegalStateException("the release was shipped");
        }
        layOutChoice(release);
        return bestWithBounds(choice, 0, EMPTY, 0, 0, EMPTY, 0);
    }

    public int bestValueByTrying(int release)
            throws IndexOutOfBoundsException, IllegalStateException {
        if (releaseAt(release).shipped) {
            throw new IllegalStateException("the release was shipped");
        }
        layOutChoice(release);
        return bestOfAll(choice, 0, EMPTY, 0, 0, EMPTY, EMPTY);
    }

    // ---- risks

    public int addRisk(int chance, int harm)
            throws IllegalArgumentException, IllegalStateException {
        if (!isWithin(chance, 0, MOST_CHANCE) || !isWithin(harm, 0, MOST_HARM)) {
            throw new IllegalArgumentException("a number is out of range");
        }
        if (risks.size() >= MOST_RISKS) {
            throw new IllegalStateException("there is no room for a risk");
        }
        risks.add(new Risk(chance, harm));
        return risks.size() - 1;
    }

    public int lower(int risk, int wish, int percentage)
            throws IndexOutOfBoundsException, IllegalArgumentException, IllegalStateException {
        Risk lowered = riskAt(risk);
        wishAt(wish);
        if (!isWithin(percentage, 1, MOST_PERCENTAGE)) {
            throw new IllegalArgumentException("the percentage is out of range");
        }
        return addEffect(lowered, new Effect(true, wish, percentage));
    }

    public int raise(int risk, int wish, int thousandths)
            throws IndexOutOfBoundsException, IllegalArgumentException, IllegalStateException {
        Risk raised = riskAt(risk);
        wishAt(wish);
        if (!isWithin(thousandths, 1, MOST_CHANCE)) {
            throw new IllegalArgumentException("the thousandths are out of range");
        }
        return addEffect(raised, new Effect(false, wish, thousandths));
    }

    public int chance(int risk) throws IndexOutOfBoundsException {
        return chanceOf(riskAt(risk), wishesIn(DROPPED));
    }

    public long exposure() {
        return exposureWith(wishesIn(DROPPED));
    }

    public long changeByDropping(int wish) throws IndexOutOfBoundsException, IllegalStateException {
        char state = wishAt(wish).state;
        if (state == SHIPPED || state == DROPPED) {
            throw new IllegalStateException("the wish is shipped or dropped");
        }
        int dropped = wishesIn(DROPPED);
        return exposureWith(dropped | bit(wish)) - exposureWith(dropped);
    }

    // ---- baselines, open ends and figures

    public int makeBaseline() throws IllegalStateException {
        if (baselines.size() >= MOST_BASELINES) {
            throw new IllegalStateException("there is no room for a baseline");
        }
        Baseline made = new Baseline();
        for (int i = 0; i < wishes.size(); i++) {
            made.keep(i, wishes.get(i));
        }
        baselines.add(made);
        return baselines.size() - 1;
    }

    public int differences(int baseline, int other) throws IndexOutOfBoundsException {
        Baseline one = baselineAt(baseline);
        Baseline two = baselineAt(other);
        int count = 0;
        for (int i = 0; i < MOST_WISHES; i++) {
            if (one.differsIn(i, two)) {
                count++;
            }
        }
        return count;
    }

    public int openEnds(char kind) throws IllegalArgumentException {
        if (!isKind(kind)) {
            throw new IllegalArgumentException("no such kind");
        }
        return Integer.bitCount(openOf(kind));
    }

    public int openAt(char kind, int index)
            throws IllegalArgumentException, NoSuchElementException {
        if (!isKind(kind)) {
            throw new IllegalArgumentException("no such kind");
        }
        int open = openOf(kind);
        if (index < 0 || index >= Integer.bitCount(open)) {
            throw new NoSuchElementException("no such open end");
        }
        return placeOf(open, index);
    }

    public int writeWish(int wish) throws IndexOutOfBoundsException {
        Wish told = wishAt(wish);
        line.setLength(0);
        line.append(told.name).append(": ").append(textOf(told.state));
        if (told.release != NONE) {
            line.append(told.release);
        }
        if (hasWish(told.parent)) {
            line.append(", refines ").append(wishes.get(told.parent).name);
        }
        return line.length();
    }

    public char lineAt(int index) throws IndexOutOfBoundsException {
        if (index < 0 || index >= line.length()) {
            throw new IndexOutOfBoundsException("no such character");
        }
        return line.charAt(index);
    }

    public double meanChance() throws ArithmeticException {
        int count = risks.size();
        if (count == 0) {
            throw new ArithmeticException("there are no risks");
        }
        int sum = 0;
        for (int i = 0; i < count; i++) {
            sum += chanceOf(risks.get(i), wishesIn(DROPPED));
        }
        return (double) sum / (double) count;
    }

    public float coveredShare(int release) throws IndexOutOfBoundsException, ArithmeticException {
        Release asked = releaseAt(release);
        int all = wishesOf(release);
        int count = Integer.bitCount(all);
        if (count == 0) {
            throw new ArithmeticException("the release has no wishes");
        }
        int covered = Integer.bitCount(all & coveredByCounts(asked));
        return (float) covered / (float) count;
    }

    public boolean isConsistent() {
        return countsHold() && wishesHold() && testsHold() && releasesHold() && risksHold();
    }

    // ---- looking things up

    private boolean hasWish(int wish) {
        return wish >= 0 && wish < wishes.size();
    }

    private Wish wishAt(int wish) {
        if (!hasWish(wish)) {
            throw new IndexOutOfBoundsException("no such wish");
        }
        return wishes.get(wish);
    }

    private Test testAt(int test) {
        if (test < 0 || test >= tests.size()) {
            throw new IndexOutOfBoundsException("no such test");
        }
        return tests.get(test);
    }

    private Release releaseAt(int release) {
        if (release < 0 || release >= releases.size()) {
            throw new IndexOutOfBoundsException("no such release");
        }
        return releases.get(release);
    }

    private Risk riskAt(int risk) {
        if (risk < 0 || risk >= risks.size()) {
            throw new IndexOutOfBoundsException("no such risk");
        }
        return risks.get(risk);
    }

    private Baseline baselineAt(int baseline) {
        if (baseline < 0 || baseline >= baselines.size()) {
            throw new IndexOutOfBoundsException("no such baseline");
        }
        return baselines.get(baseline);
    }

    private int numberOf(String name) {
        for (int i = 0; i < wishes.size(); i++) {
            if (wishes.get(i).name.equals(name)) {
                return i;
            }
        }
        return NONE;
    }

    private static boolean isLetter(char character) {
        return character >= 'a' && character <= 'z';
    }

    private static boolean isWithin(int number, int least, int most) {
        return number >= least && number <= most;
    }

    // ---- sets

    private static int bit(int number) {
        return 1 << number;
    }

    private static boolean contains(int set, int number) {
        return (set & bit(number)) != 0;
    }

    private static int placeOf(int set, int index) {
        int before = 0;
        for (int i = 0; i < MOST_WISHES; i++) {
            if (contains(set, i)) {
                if (before == index) {
                    return i;
                }
                before++;
            }
        }
        return NONE;
    }

    private int wishesIn(char state) {
        int set = EMPTY;
        for (int i = 0; i < wishes.size(); i++) {
            if (wishes.get(i).state == state) {
                set |= bit(i);
            }
        }
        return set;
    }

    private int wishesOf(int release) {
        int set = EMPTY;
        for (int i = 0; i < wishes.size(); i++) {
            if (wishes.get(i).release == release) {
                set |= bit(i);
            }
        }
        return set;
    }

    private int childrenOf(int parent) {
        int set = EMPTY;
        for (int i = 0; i < wishes.size(); i++) {
            if (wishes.get(i).parent == parent) {
                set |= bit(i);
            }
        }
        return set;
    }

    private int withAllNeeds(int wish) {
        int set = bit(wish);
        for (int round = 0; round < wishes.size(); round++) {
            for (int i = 0; i < wishes.size(); i++) {
                if (contains(set, i)) {
                    set |= wishes.get(i).needs;
                }
            }
        }
        return set;
    }

    private int withAllTouched(int wish) {
        int set = bit(wish);
        for (int round = 0; round < wishes.size(); round++) {
            for (int i = 0; i < wishes.size(); i++) {
                Wish other = wishes.get(i);
                boolean refinesOne = other.parent != NONE && contains(set, other.parent);
                if (refinesOne || (other.needs & set) != 0) {
                    set |= bit(i);
                }
            }
        }
        return set;
    }

    // The wish itself counts as a step of its own way up: a wish can't be its own parent.
    private boolean leadsUpTo(int wish, int other) {
        int at = wish;
        for (int step = 0; step < wishes.size() && hasWish(at); step++) {
            if (at == other) {
                return true;
            }
            at = wishes.get(at).parent;
        }
        return false;
    }

    // ---- coverage

    private static boolean isResult(char result) {
        return result == PASSED || result == FAILED || result == NO_RESULT;
    }

    private int coveredByCounts(Release release) {
        int set = EMPTY;
        for (int i = 0; i < wishes.size(); i++) {
            if (release.passedOf(i) > 0) {
                set |= bit(i);
            }
        }
        return withCoveredParents(set);
    }

    private int coveredByLinks(int release) {
        int set = EMPTY;
        for (int i = 0; i < tests.size(); i++) {
            Test test = tests.get(i);
            if (test.resultFor(release) == PASSED) {
                set |= test.covers;
            }
        }
        return withCoveredParents(set);
    }

    private int withCoveredParents(int covered) {
        int dropped = wishesIn(DROPPED);
        int set = covered;
        for (int round = 0; round < wishes.size(); round++) {
            for (int i = 0; i < wishes.size(); i++) {
                int children = childrenOf(i) & ~dropped;
                if (children != EMPTY && (children & ~set) == EMPTY) {
                    set |= bit(i);
                }
            }
        }
        return set;
    }

    // ---- the content of a release

    private int roomIn(int release) {
        int room = releaseAt(release).capacity;
        for (int i = 0; i < wishes.size(); i++) {
            Wish wish = wishes.get(i);
            if (wish.release == release) {
                room -= wish.cost;
            }
        }
        return room;
    }

    private char firstReason(int release) {
        Release asked = releaseAt(release);
        if (asked.shipped) {
            return WAS_SHIPPED;
        }
        int planned = wishesOf(release);
        if (planned == EMPTY) {
            return NOTHING_PLANNED;
        }
        int standing = planned | wishesIn(SHIPPED);
        if ((neededBy(planned) & ~standing) != EMPTY) {
            return NEED_IS_OPEN;
        }
        if ((excludedBy(planned) & standing) != EMPTY) {
            return WISHES_CLASH;
        }
        if ((planned & ~coveredByCounts(asked)) != EMPTY) {
            return NOT_COVERED;
        }
        return NO_REASON;
    }

    private int neededBy(int set) {
        int needed = EMPTY;
        for (int i = 0; i < wishes.size(); i++) {
            if (contains(set, i)) {
                needed |= wishes.get(i).needs;
            }
        }
        return needed;
    }

    private int excludedBy(int set) {
        int excluded = EMPTY;
        for (int i = 0; i < wishes.size(); i++) {
            if (contains(set, i)) {
                excluded |= wishes.get(i).excludes;
            }
        }
        return excluded;
    }

    private void layOutChoice(int release) {
        choice.start(roomIn(release), wishesOf(release) | wishesIn(SHIPPED));
        for (int i = 0; i < wishes.size(); i++) {
            Wish wish = wishes.get(i);
            if (wish.state == ACCEPTED) {
                choice.put(bit(i), wish);
            }
        }
        choice.sumUp();
    }

    // No set below can count where even all the values to come don't beat the best, or where a
    // needed wish has been passed by. It goes no deeper than the choice's 16 places.
    private static int bestWithBounds(
            Choice choice, int next, int set, int cost, int value, int needed, int best) {
        int there = set | choice.standing;
        int missing = needed & ~there;
        if (!choice.hasPlace(next)) {
            return missing == EMPTY && value > best ? value : best;
        }
        if (value + choice.valueFrom[next] <= best || (missing & ~choice.bitsFrom[next]) != EMPTY) {
            return best;
        }
        int found = best;
        int costWith = cost + choice.costs[next];
        if (costWith <= choice.room && (choice.excludes[next] & there) == EMPTY) {
            found = bestWithBounds(choice, next + 1, set | choice.bits[next], costWith,
                    value + choice.values[next], needed | choice.needs[next], found);
        }
        return bestWithBounds(choice, next + 1, set, cost, value, needed, found);
    }

    // It leaves out nothing before a set is whole, so that it can vouch for the search with bounds.
    private static int bestOfAll(
            Choice choice, int next, int set, int cost, int value, int needed, int excluded) {
        if (!choice.hasPlace(next)) {
            int there = set | choice.standing;
            boolean fits = cost <= choice.room
                    && (needed & ~there) == EMPTY && (excluded & there) == EMPTY;
            return fits ? value : 0;
        }
        int without = bestOfAll(choice, next + 1, set, cost, value, needed, excluded);
        int with = bestOfAll(choice, next + 1, set | choice.bits[next], cost + choice.costs[next],
                value + choice.values[next], needed | choice.needs[next],
                excluded | choice.excludes[next]);
        return Math.max(without, with);
    }

    // ---- risks as they stand

    private int addEffect(Risk risk, Effect effect) {
        if (risk.effects.size() >= MOST_EFFECTS) {
            throw new IllegalStateException("the risk has no room for an effect");
        }
        risk.effects.add(effect);
        return risk.effects.size();
    }

    private int chanceOf(Risk risk, int dropped) {
        int shipped = wishesIn(SHIPPED);
        int chance = risk.firstChance;
        for (int i = 0; i < risk.effects.size(); i++) {
            Effect effect = risk.effects.get(i);
            if (effect.lowers && contains(shipped, effect.wish)) {
                chance = chance * (100 - effect.amount) / 100;
            }
            if (!effect.lowers && contains(dropped, effect.wish)) {
                chance = Math.min(MOST_CHANCE, chance + effect.amount);
            }
        }
        return chance;
    }

    private long exposureWith(int dropped) {
        long sum = 0;
        for (int i = 0; i < risks.size(); i++) {
            Risk risk = risks.get(i);
            sum += chanceOf(risk, dropped) * risk.harm / 1000;
        }
        return sum;
    }

    // ---- open ends and texts

    private static boolean isKind(char kind) {
        return kind == OPEN_WISHES || kind == OPEN_TESTS || kind == OPEN_RISKS;
    }

    private int openOf(char kind) {
        if (kind == OPEN_WISHES) {
            return openWishes();
        }
        return kind == OPEN_TESTS ? openTests() : openRisks();
    }

    private int openWishes() {
        int dropped = wishesIn(DROPPED);
        int open = wishesIn(ACCEPTED) | wishesIn(PLANNED);
        for (int i = 0; i < tests.size(); i++) {
            open &= ~tests.get(i).covers;
        }
        for (int i = 0; i < wishes.size(); i++) {
            if ((childrenOf(i) & ~dropped) != EMPTY) {
                open &= ~bit(i);
            }
        }
        return open;
    }

    private int openTests() {
        int open = EMPTY;
        for (int i = 0; i < tests.size(); i++) {
            if (tests.get(i).covers == EMPTY) {
                open |= bit(i);
            }
        }
        return open;
    }

    private int openRisks() {
        int open = EMPTY;
        for (int i = 0; i < risks.size(); i++) {
            if (risks.get(i).effects.isEmpty()) {
                open |= bit(i);
            }
        }
        return open;
    }

    private static String textOf(char state) {
        switch (state) {
            case NEW:
                return "new";
            case ACCEPTED:
                return "accepted";
            case PLANNED:
                return "planned for ";
            case SHIPPED:
                return "shipped with ";
            default:
                return "dropped";
        }
    }

    // ---- invariants

    private boolean countsHold() {
        return wishes.size() <= MOST_WISHES && tests.size() <= MOST_TESTS
                && releases.size() <= MOST_RELEASES && risks.size() <= MOST_RISKS
                && baselines.size() <= MOST_BASELINES && typed.length() <= MOST_LETTERS;
    }

    private boolean wishesHold() {
        for (int i = 0; i < wishes.size(); i++) {
            Wish wish = wishes.get(i);
            boolean holds = isName(wish.name) && numberOf(wish.name) == i
                    && isWithin(wish.cost, 1, MOST_COST) && isWithin(wish.value, 0, MOST_VALUE)
                    && stateHolds(wish) && linksHold(i);
            if (!holds) {
                return false;
            }
        }
        return true;
    }

    private static boolean isName(String text) {
        if (text.isEmpty() || text.length() > MOST_LETTERS) {
            return false;
        }
        for (int i = 0; i < text.length(); i++) {
            if (!isLetter(text.charAt(i))) {
                return false;
            }
        }
        return true;
    }

    private boolean stateHolds(Wish wish) {
        if (wish.release == NONE) {
            return wish.state == NEW || wish.state == ACCEPTED || wish.state == DROPPED;
        }
        if (wish.release < 0 || wish.release >= releases.size()) {
            return false;
        }
        return wish.state == (releases.get(wish.release).shipped ? SHIPPED : PLANNED);
    }

    private boolean linksHold(int number) {
        Wish wish = wishes.get(number);
        if (wish.parent != NONE && (!hasWish(wish.parent) || leadsUpTo(wish.parent, number))) {
            return false;
        }
        for (int i = 0; i < wishes.size(); i++) {
            boolean needsItself = contains(wish.needs, i) && contains(withAllNeeds(i), number);
            boolean isExcludedBack = contains(wishes.get(i).excludes, number);
            boolean isMutual = contains(wish.excludes, i) == isExcludedBack;
            if (needsItself || !isMutual) {
                return false;
            }
        }
        return areWishes(wish.needs) && areWishes(wish.excludes)
                && !contains(wish.excludes, number);
    }

    private boolean areWishes(int set) {
        return (set >> wishes.size()) == EMPTY;
    }

    private boolean testsHold() {
        for (int i = 0; i < tests.size(); i++) {
            if (!areWishes(tests.get(i).covers) || !resultsHold(tests.get(i))) {
                return false;
            }
        }
        return true;
    }

    private boolean resultsHold(Test test) {
        for (int i = 0; i < MOST_RELEASES; i++) {
            char result = test.resultFor(i);
            boolean holds = i < releases.size() ? isResult(result) : result == NO_RESULT;
            if (!holds) {
                return false;
            }
        }
        return true;
    }

    private boolean releasesHold() {
        for (int i = 0; i < releases.size(); i++) {
            Release release = releases.get(i);
            boolean holds = isWithin(release.capacity, 1, MOST_CAPACITY) && roomIn(i) >= 0
                    && (!release.shipped || wishesOf(i) != EMPTY)
                    && passedCountsHold(i) && coveredByCounts(release) == coveredByLinks(i);
            if (!holds) {
                return false;
            }
        }
        return true;
    }

    private boolean passedCountsHold(int release) {
        for (int i = 0; i < wishes.size(); i++) {
            int count = 0;
            for (int j = 0; j < tests.size(); j++) {
                Test test = tests.get(j);
                if (contains(test.covers, i) && test.resultFor(release) == PASSED) {
                    count++;
                }
            }
            if (count != releaseAt(release).passedOf(i)) {
                return false;
            }
        }
        return true;
    }

    private boolean risksHold() {
        for (int i = 0; i < risks.size(); i++) {
            Risk risk = risks.get(i);
            boolean holds = isWithin(risk.firstChance, 0, MOST_CHANCE)
                    && isWithin(risk.harm, 0, MOST_HARM) && effectsHold(risk);
            if (!holds) {
                return false;
            }
        }
        return true;
    }

    private boolean effectsHold(Risk risk) {
        for (int i = 0; i < risk.effects.size(); i++) {
            Effect effect = risk.effects.get(i);
            int most = effect.lowers ? MOST_PERCENTAGE : MOST_CHANCE;
            if (!hasWish(effect.wish) || !isWithin(effect.amount, 1, most)) {
                return false;
            }
        }
        return risk.effects.size() <= MOST_EFFECTS;
    }

    // ---- what the book holds

    private static final class Wish {
        final String name;
        final int cost;
        final int value;
        char state = NEW;
        int parent = NONE;
        int release = NONE;
        int needs = EMPTY;
        int excludes = EMPTY;

        Wish(String name, int cost, int value) {
            this.name = name;
            this.cost = cost;
            this.value = value;
        }
    }

    private static final class Test {
        int covers = EMPTY;
        private final char[] results = new char[MOST_RELEASES];

        Test() {
            for (int i = 0; i < MOST_RELEASES; i++) {
                results[i] = NO_RESULT;
            }
        }

        char resultFor(int release) {
            return release >= 0 && release < MOST_RELEASES ? results[release] : NO_RESULT;
        }

        void setResultFor(int release, char result) {
            if (release >= 0 && release < MOST_RELEASES) {
                results[release] = result;
            }
        }
    }

    private static final class Release {
        final int capacity;
        boolean shipped = false;
        private final int[] passedCounts = new int[MOST_WISHES];

        Release(int capacity) {
            this.capacity = capacity;
        }

        int passedOf(int wish) {
            return wish >= 0 && wish < MOST_WISHES ? passedCounts[wish] : 0;
        }

        void countPassed(int set, int change) {
            for (int i = 0; i < MOST_WISHES; i++) {
                if (contains(set, i)) {
                    passedCounts[i] += change;
                }
            }
        }
    }

    private static final class Risk {
        final int firstChance;
        final int harm;
        final List<Effect> effects = new ArrayList<>();

        Risk(int firstChance, int harm) {
            this.firstChance = firstChance;
            this.harm = harm;
        }
    }

    private static final class Effect {
        final boolean lowers;
        final int wish;
        final int amount;

        Effect(boolean lowers, int wish, int amount) {
            this.lowers = lowers;
            this.wish = wish;
            this.amount = amount;
        }
    }

    // A wish that was not there keeps state 0, which no wish has, so it differs from every wish.
    private static final class Baseline {
        private final char[] states = new char[MOST_WISHES];
        private final int[] parents = new int[MOST_WISHES];
        private final int[] itsReleases = new int[MOST_WISHES];

        void keep(int number, Wish wish) {
            if (number >= 0 && number < MOST_WISHES) {
                states[number] = wish.state;
                parents[number] = wish.parent;
                itsReleases[number] = wish.release;
            }
        }

        boolean differsIn(int number, Baseline other) {
            if (number < 0 || number >= MOST_WISHES) {
                return false;
            }
            return states[number] != other.states[number]
                    || parents[number] != other.parents[number]
                    || itsReleases[number] != other.itsReleases[number];
        }
    }

    // Its rows are made once for each book, so that a search makes no objects.
    private static final class Choice {
        final int[] bits = new int[MOST_WISHES];
        final int[] costs = new int[MOST_WISHES];
        final int[] values = new int[MOST_WISHES];
        final int[] needs = new int[MOST_WISHES];
        final int[] excludes = new int[MOST_WISHES];
        final int[] valueFrom = new int[MOST_WISHES];
        final int[] bitsFrom = new int[MOST_WISHES];
        int count = 0;
        int room = 0;
        int standing = EMPTY;

        boolean hasPlace(int place) {
            return place >= 0 && place < count && place < MOST_WISHES;
        }

        void start(int newRoom, int newStanding) {
            count = 0;
            room = newRoom;
            standing = newStanding;
        }

        void put(int bit, Wish wish) {
            if (count >= 0 && count < MOST_WISHES) {
                bits[count] = bit;
                costs[count] = wish.cost;
                values[count] = wish.value;
                needs[count] = wish.needs;
                excludes[count] = wish.excludes;
                count++;
            }
        }

        void sumUp() {
            int value = 0;
            int set = EMPTY;
            for (int i = Math.min(count, MOST_WISHES) - 1; i >= 0; i--) {
                value += values[i];
                set |= bits[i];
                valueFrom[i] = value;
                bitsFrom[i] = set;
            }
        }
    }
}
