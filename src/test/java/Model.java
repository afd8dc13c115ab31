import java.util.ArrayList;
import java.util.HashSet;
import java.util.List;
import java.util.NoSuchElementException;
import java.util.Set;
import java.util.TreeSet;

/**
 * The document once more, by other means: sets of objects and recursion in place of bits and
 * rounds, nothing kept that can be computed. AgreementTest compares it with SpecBoard.
 */
final class Model {
    private static final class Wish {
        String name;
        int cost;
        int value;
        char state = 'n';
        Wish parent;
        Release release;
        final Set<Wish> needs = new HashSet<>();
        final Set<Wish> excludes = new HashSet<>();
    }

    private static final class Release {
        int capacity;
        boolean shipped;
        final Set<Test> passing = new HashSet<>();
        final Set<Test> failing = new HashSet<>();
    }

    private static final class Test {
        final Set<Wish> covers = new HashSet<>();
    }

    private record Effect(boolean lowers, Wish wish, int amount) {
    }

    private static final class Risk {
        int chance;
        int harm;
        final List<Effect> effects = new ArrayList<>();
    }

    private record Mark(char state, Wish parent, Release release) {
    }

    private String text = "";
    private String line = "";
    private final List<Wish> wishes = new ArrayList<>();
    private final List<Test> tests = new ArrayList<>();
    private final List<Release> releases = new ArrayList<>();
    private final List<Risk> risks = new ArrayList<>();
    private final List<List<Mark>> baselines = new ArrayList<>();

    private static <T> T at(List<T> list, int index) {
        if (index < 0 || index >= list.size()) {
            throw new IndexOutOfBoundsException();
        }
        return list.get(index);
    }

    private static void argument(boolean right) {
        if (!right) {
            throw new IllegalArgumentException();
        }
    }

    private static void stateOk(boolean right) {
        if (!right) {
            throw new IllegalStateException();
        }
    }

    private static void supported(boolean right) {
        if (!right) {
            throw new UnsupportedOperationException();
        }
    }

    private static void element(boolean right) {
        if (!right) {
            throw new NoSuchElementException();
        }
    }

    int type(char c) {
        argument("abcdefghijklmnopqrstuvwxyz".indexOf(c) >= 0);
        stateOk(text.length() != 8);
        text += c;
        return text.length();
    }

    int addWish(int cost, int value) {
        String name = text;
        text = "";
        argument(!name.equals("") && cost > 0 && cost < 51 && value > -1 && value < 100);
        stateOk(wishes.stream().noneMatch(w -> w.name.equals(name)) && wishes.size() != 16);
        Wish wish = new Wish();
        wish.name = name;
        wish.cost = cost;
        wish.value = value;
        wishes.add(wish);
        return wishes.indexOf(wish);
    }

    int wishNamed() {
        for (Wish wish : wishes) {
            if (wish.name.equals(text)) {
                return wishes.indexOf(wish);
            }
        }
        throw new NoSuchElementException();
    }

    private int countIn(char state) {
        return (int) wishes.stream().filter(w -> w.state == state).count();
    }

    int accept(int wish) {
        Wish w = at(wishes, wish);
        stateOk(w.state == 'n');
        w.state = 'a';
        return countIn('a');
    }

    int drop(int wish) {
        Wish w = at(wishes, wish);
        stateOk("sd".indexOf(w.state) < 0);
        w.state = 'd';
        w.release = null;
        return countIn('d');
    }

    char state(int wish) {
        return at(wishes, wish).state;
    }

    private List<Wish> children(Wish parent) {
        return wishes.stream().filter(w -> w.parent == parent).toList();
    }

    private boolean isUnder(Wish low, Wish high) {
        return low != null && (low == high || isUnder(low.parent, high));
    }

    int refine(int wish, int parent) {
        Wish w = at(wishes, wish);
        Wish p = at(wishes, parent);
        stateOk(w.parent == null);
        supported(!isUnder(p, w));
        w.parent = p;
        return children(p).size();
    }

    private boolean leadsTo(Wish from, Wish to) {
        return from == to || from.needs.stream().anyMatch(n -> leadsTo(n, to));
    }

    int need(int wish, int other) {
        Wish w = at(wishes, wish);
        Wish o = at(wishes, other);
        stateOk(!w.needs.contains(o));
        supported(!leadsTo(o, w));
        w.needs.add(o);
        return w.needs.size();
    }

    boolean exclude(int wish, int other) {
        Wish w = at(wishes, wish);
        Wish o = at(wishes, other);
        argument(w != o);
        o.excludes.add(w);
        return w.excludes.add(o);
    }

    int parentOf(int wish) {
        Wish parent = at(wishes, wish).parent;
        element(parent != null);
        return wishes.indexOf(parent);
    }

    private void touch(Wish wish, Set<Wish> seen) {
        for (Wish other : wishes) {
            if ((other.parent == wish || other.needs.contains(wish)) && seen.add(other)) {
                touch(other, seen);
            }
        }
    }

    int touched(int wish) {
        Set<Wish> seen = new HashSet<>();
        touch(at(wishes, wish), seen);
        seen.remove(at(wishes, wish));
        return seen.size();
    }

    int addTest() {
        stateOk(tests.size() != 16);
        tests.add(new Test());
        return tests.size() - 1;
    }

    int cover(int test, int wish) {
        Test t = at(tests, test);
        Wish w = at(wishes, wish);
        stateOk(t.covers.add(w));
        return t.covers.size();
    }

    char result(int test, int release, char result) {
        Test t = at(tests, test);
        Release r = at(releases, release);
        argument("pf-".indexOf(result) >= 0);
        stateOk(!r.shipped);
        char before = r.passing.remove(t) ? 'p' : r.failing.remove(t) ? 'f' : '-';
        if (result == 'p') {
            r.passing.add(t);
        }
        if (result == 'f') {
            r.failing.add(t);
        }
        return before;
    }

    int passed(int wish, int release) {
        Wish w = at(wishes, wish);
        return (int) at(releases, release).passing.stream().filter(t -> t.covers.contains(w)).count();
    }

    private boolean covered(Wish w, Release r) {
        if (r.passing.stream().anyMatch(t -> t.covers.contains(w))) {
            return true;
        }
        List<Wish> live = children(w).stream().filter(c -> c.state != 'd').toList();
        return !live.isEmpty() && live.stream().allMatch(c -> covered(c, r));
    }

    boolean isCovered(int wish, int release) {
        return covered(at(wishes, wish), at(releases, release));
    }

    int addRelease(int capacity) {
        argument(capacity > 0 && capacity < 501);
        stateOk(releases.size() != 6);
        Release release = new Release();
        release.capacity = capacity;
        releases.add(release);
        return releases.size() - 1;
    }

    private List<Wish> content(Release r) {
        return wishes.stream().filter(w -> w.release == r).toList();
    }

    private int room(Release r) {
        return r.capacity - content(r).stream().mapToInt(w -> w.cost).sum();
    }

    int plan(int wish, int release) {
        Wish w = at(wishes, wish);
        Release r = at(releases, release);
        stateOk(w.state == 'a' && !r.shipped);
        supported(w.cost <= room(r));
        w.state = 'p';
        w.release = r;
        return room(r);
    }

    int unplan(int wish) {
        Wish w = at(wishes, wish);
        stateOk(w.state == 'p');
        int release = releases.indexOf(w.release);
        w.state = 'a';
        w.release = null;
        return release;
    }

    int releaseOf(int wish) {
        Release r = at(wishes, wish).release;
        element(r != null);
        return releases.indexOf(r);
    }

    int left(int release) {
        return room(at(releases, release));
    }

    private Set<Wish> standing(Release r) {
        Set<Wish> set = new HashSet<>(content(r));
        wishes.stream().filter(w -> w.state == 's').forEach(set::add);
        return set;
    }

    char reasonAgainst(int release) {
        Release r = at(releases, release);
        List<Wish> planned = content(r);
        if (r.shipped) {
            return 's';
        }
        if (planned.isEmpty()) {
            return 'e';
        }
        Set<Wish> standing = standing(r);
        if (!planned.stream().allMatch(w -> standing.containsAll(w.needs))) {
            return 'd';
        }
        if (planned.stream().anyMatch(w -> w.excludes.stream().anyMatch(standing::contains))) {
            return 'c';
        }
        return planned.stream().allMatch(w -> covered(w, r)) ? '-' : 't';
    }

    int ship(int release) {
        Release r = at(releases, release);
        supported(reasonAgainst(release) == '-');
        r.shipped = true;
        content(r).forEach(w -> w.state = 's');
        return content(r).size();
    }

    /** Tries all sets, each looked at whole, in no clever order. */
    int bestValue(int release) {
        Release r = at(releases, release);
        stateOk(!r.shipped);
        List<Wish> open = wishes.stream().filter(w -> w.state == 'a').toList();
        int best = 0;
        for (int set = 0; set < 1 << open.size(); set++) {
            List<Wish> picked = new ArrayList<>();
            int cost = 0;
            int value = 0;
            for (int i = 0; i < open.size(); i++) {
                if ((set >> i & 1) == 1) {
                    picked.add(open.get(i));
                    cost += open.get(i).cost;
                    value += open.get(i).value;
                }
            }
            if (value > best && cost <= room(r) && goTogether(picked, standing(r))) {
                best = value;
            }
        }
        return best;
    }

    private static boolean goTogether(List<Wish> picked, Set<Wish> standing) {
        Set<Wish> there = new HashSet<>(standing);
        there.addAll(picked);
        return picked.stream().allMatch(w -> there.containsAll(w.needs)
            && there.stream().noneMatch(t -> t.excludes.contains(w) || w.excludes.contains(t)));
    }

    int addRisk(int chance, int harm) {
        argument(chance > -1 && chance < 1001 && harm > -1 && harm < 10000);
        stateOk(risks.size() != 8);
        Risk risk = new Risk();
        risk.chance = chance;
        risk.harm = harm;
        risks.add(risk);
        return risks.size() - 1;
    }

    private int effect(boolean lowers, int risk, int wish, int amount) {
        Risk r = at(risks, risk);
        Wish w = at(wishes, wish);
        argument(amount > 0 && amount < (lowers ? 101 : 1001));
        stateOk(r.effects.size() != 6);
        r.effects.add(new Effect(lowers, w, amount));
        return r.effects.size();
    }

    int lower(int risk, int wish, int percentage) {
        return effect(true, risk, wish, percentage);
    }

    int raise(int risk, int wish, int thousandths) {
        return effect(false, risk, wish, thousandths);
    }

    private int chance(Risk risk) {
        int chance = risk.chance;
        for (Effect effect : risk.effects) {
            if (effect.lowers() && effect.wish().state == 's') {
                chance = (int) Math.floor(chance * (100 - effect.amount()) / 100.0);
            } else if (!effect.lowers() && effect.wish().state == 'd') {
                chance += effect.amount();
                chance = chance > 1000 ? 1000 : chance;
            }
        }
        return chance;
    }

    int chance(int risk) {
        return chance(at(risks, risk));
    }

    long exposure() {
        return risks.stream().mapToLong(r -> Math.floorDiv((long) chance(r) * r.harm, 1000L)).sum();
    }

    long changeByDropping(int wish) {
        Wish w = at(wishes, wish);
        char state = w.state;
        stateOk("sd".indexOf(state) < 0);
        long before = exposure();
        w.state = 'd';
        long after = exposure();
        w.state = state;
        return after - before;
    }

    int makeBaseline() {
        stateOk(baselines.size() != 5);
        baselines.add(wishes.stream().map(w -> new Mark(w.state, w.parent, w.release)).toList());
        return baselines.size() - 1;
    }

    int differences(int baseline, int other) {
        List<Mark> one = at(baselines, baseline);
        List<Mark> two = at(baselines, other);
        int shorter = Math.min(one.size(), two.size());
        int count = Math.max(one.size(), two.size()) - shorter;
        for (int i = 0; i < shorter; i++) {
            count += one.get(i).equals(two.get(i)) ? 0 : 1;
        }
        return count;
    }

    private List<Integer> open(char kind) {
        argument("wtr".indexOf(kind) >= 0);
        Set<Integer> found = new TreeSet<>();
        if (kind == 'w') {
            wishes.stream().filter(w -> w.state == 'a' || w.state == 'p')
                .filter(w -> tests.stream().noneMatch(t -> t.covers.contains(w)))
                .filter(w -> children(w).stream().allMatch(c -> c.state == 'd'))
                .forEach(w -> found.add(wishes.indexOf(w)));
        } else if (kind == 't') {
            tests.stream().filter(t -> t.covers.isEmpty()).forEach(t -> found.add(tests.indexOf(t)));
        } else {
            risks.stream().filter(r -> r.effects.isEmpty()).forEach(r -> found.add(risks.indexOf(r)));
        }
        return new ArrayList<>(found);
    }

    int openEnds(char kind) {
        return open(kind).size();
    }

    int openAt(char kind, int index) {
        List<Integer> open = open(kind);
        element(index >= 0 && index < open.size());
        return open.get(index);
    }

    int writeWish(int wish) {
        Wish w = at(wishes, wish);
        String told = switch (w.state) {
            case 'n' -> "new";
            case 'a' -> "accepted";
            case 'p' -> "planned for " + releases.indexOf(w.release);
            case 's' -> "shipped with " + releases.indexOf(w.release);
            default -> "dropped";
        };
        line = w.name + ": " + told + (w.parent == null ? "" : ", refines " + w.parent.name);
        return line.length();
    }

    char lineAt(int index) {
        if (index < 0 || index >= line.length()) {
            throw new IndexOutOfBoundsException();
        }
        return line.charAt(index);
    }

    double meanChance() {
        if (risks.isEmpty()) {
            throw new ArithmeticException();
        }
        return (double) risks.stream().mapToInt(this::chance).sum() / (double) risks.size();
    }

    float coveredShare(int release) {
        Release r = at(releases, release);
        List<Wish> all = content(r);
        if (all.isEmpty()) {
            throw new ArithmeticException();
        }
        return (float) all.stream().filter(w -> covered(w, r)).count() / (float) all.size();
    }
}
