import java.util.Random;
import java.util.function.Function;

/**
 * Runs of up to 512 calls by chance, always the same ones, on a SpecBoard and on the Model: every
 * answer and every exception must agree, the exceptions must come from SpecBoard's own lines, and
 * at times every part of the two is compared, so that a call that throws can't change a thing.
 */
final class AgreementTest {
    private static final int RUNS = 1500;
    private static final int CALLS = 512;
    private static final int[] ODD = {
        -1, 16, 17, 31, 32, 100, 1 << 20, -32, Integer.MIN_VALUE, Integer.MAX_VALUE};

    private final int seed;
    private final Random random;
    private final SpecBoard book = new SpecBoard();
    private final Model model = new Model();
    private int calls = 0;

    private AgreementTest(int seed) {
        this.seed = seed;
        random = new Random(seed);
    }

    public static void main(String[] args) {
        for (int seed = 0; seed < RUNS; seed++) {
            new AgreementTest(seed).run();
        }
        Check.end();
    }

    private void run() {
        int wishes = random.nextInt(17);
        for (int i = 0; i < wishes; i++) {
            addWish();
        }
        int releases = random.nextInt(4);
        for (int i = 0; i < releases; i++) {
            call(7);
        }
        int length = 100 + random.nextInt(CALLS - 100);
        while (calls < length) {
            call(random.nextInt(41));
            // A look at everything takes some 150 calls.
            if (random.nextInt(250) == 0 && calls < length - 200) {
                lookAtEverything();
            }
        }
    }

    private void addWish() {
        int letters = 1 + random.nextInt(2);
        for (int i = 0; i < letters; i++) {
            char c = (char) ('a' + random.nextInt(9));
            both("type " + c, b -> b.type(c), m -> m.type(c));
        }
        int cost = 1 + random.nextInt(random.nextBoolean() ? 10 : 50);
        int value = random.nextInt(100);
        both("addWish " + cost + " " + value, b -> b.addWish(cost, value), m -> m.addWish(cost, value));
    }

    /** Mostly a number below the bound, at times one far off. */
    private int number(int bound) {
        return random.nextInt(40) == 0 ? ODD[random.nextInt(ODD.length)] : random.nextInt(bound);
    }

    private char sign(String usual) {
        return random.nextInt(30) == 0 ? (char) random.nextInt(200) : usual.charAt(random.nextInt(usual.length()));
    }

    private void call(int which) {
        if (which < 14) {
            callOnWishes(which);
        } else if (which < 27) {
            callOnTestsAndReleases(which);
        } else {
            callOnRisksAndFigures(which);
        }
    }

    private void callOnWishes(int which) {
        int w = number(16);
        int o = number(16);
        switch (which) {
            case 0 -> addWish();
            case 1 -> {
                char c = sign("abz");
                both("type " + (int) c, b -> b.type(c), m -> m.type(c));
            }
            case 2 -> both("wishNamed", SpecBoard::wishNamed, Model::wishNamed);
            case 3, 4 -> both("accept " + w, b -> b.accept(w), m -> m.accept(w));
            case 5 -> {
                if (random.nextInt(3) == 0) {
                    both("drop " + w, b -> b.drop(w), m -> m.drop(w));
                }
            }
            case 6 -> both("state " + w, b -> b.state(w), m -> m.state(w));
            case 7 -> {
                int c = number(random.nextBoolean() ? 60 : 501);
                both("addRelease " + c, b -> b.addRelease(c), m -> m.addRelease(c));
            }
            case 8 -> both("refine " + w + " " + o, b -> b.refine(w, o), m -> m.refine(w, o));
            case 9 -> both("need " + w + " " + o, b -> b.need(w, o), m -> m.need(w, o));
            case 10 -> both("exclude " + w + " " + o, b -> b.exclude(w, o), m -> m.exclude(w, o));
            case 11 -> both("parentOf " + w, b -> b.parentOf(w), m -> m.parentOf(w));
            case 12 -> both("touched " + w, b -> b.touched(w), m -> m.touched(w));
            default -> both("releaseOf " + w, b -> b.releaseOf(w), m -> m.releaseOf(w));
        }
    }

    private void callOnTestsAndReleases(int which) {
        int t = number(16);
        int w = number(16);
        int r = number(random.nextBoolean() ? 2 : 6);
        char c = sign("ppppf-");
        switch (which) {
            case 14 -> both("addTest", SpecBoard::addTest, Model::addTest);
            case 15, 16 -> both("cover " + t + " " + w, b -> b.cover(t, w), m -> m.cover(t, w));
            case 17, 18 -> both("result " + t + " " + r + " " + c,
                b -> b.result(t, r, c), m -> m.result(t, r, c));
            case 19 -> both("passed " + w + " " + r, b -> b.passed(w, r), m -> m.passed(w, r));
            case 20 -> both("isCovered " + w + " " + r, b -> b.isCovered(w, r), m -> m.isCovered(w, r));
            case 21 -> both("isCoveredFromLinks " + w + " " + r,
                b -> b.isCoveredFromLinks(w, r), m -> m.isCovered(w, r));
            case 22, 23 -> both("plan " + w + " " + r, b -> b.plan(w, r), m -> m.plan(w, r));
            case 24 -> both("unplan " + w, b -> b.unplan(w), m -> m.unplan(w));
            case 25 -> {
                both("reasonAgainst " + r, b -> b.reasonAgainst(r), m -> m.reasonAgainst(r));
                both("ship " + r, b -> b.ship(r), m -> m.ship(r));
            }
            default -> bestValues(r);
        }
    }

    private void bestValues(int r) {
        if (random.nextInt(2) == 0) {
            both("bestValue " + r, b -> b.bestValue(r), m -> m.bestValue(r));
            both("bestValueByTrying " + r, b -> b.bestValueByTrying(r), m -> m.bestValue(r));
        }
    }

    private void callOnRisksAndFigures(int which) {
        int w = number(16);
        int r = number(6);
        int k = number(8);
        char c = sign("wtr");
        int p = number(102);
        int h = number(random.nextBoolean() ? 1002 : 10001);
        switch (which) {
            case 27 -> both("addRisk " + h + " " + h, b -> b.addRisk(h, h), m -> m.addRisk(h, h));
            case 28 -> both("addRisk " + p + " " + h, b -> b.addRisk(p * 10, h), m -> m.addRisk(p * 10, h));
            case 29 -> both("lower " + k + " " + w + " " + p, b -> b.lower(k, w, p), m -> m.lower(k, w, p));
            case 30 -> both("raise " + k + " " + w + " " + h, b -> b.raise(k, w, h), m -> m.raise(k, w, h));
            case 31 -> both("chance " + k, b -> b.chance(k), m -> m.chance(k));
            case 32 -> both("exposure", SpecBoard::exposure, Model::exposure);
            case 33 -> both("changeByDropping " + w, b -> b.changeByDropping(w), m -> m.changeByDropping(w));
            case 34 -> {
                if (random.nextInt(3) == 0) {
                    both("makeBaseline", SpecBoard::makeBaseline, Model::makeBaseline);
                }
            }
            case 35 -> both("differences " + r + " " + k,
                b -> b.differences(r, k), m -> m.differences(r, k));
            case 36 -> both("openEnds " + c, b -> b.openEnds(c), m -> m.openEnds(c));
            case 37 -> both("openAt " + c + " " + r, b -> b.openAt(c, r), m -> m.openAt(c, r));
            case 38 -> writeWish(w);
            case 39 -> both("meanChance", SpecBoard::meanChance, Model::meanChance);
            default -> both("coveredShare " + r, b -> b.coveredShare(r), m -> m.coveredShare(r));
        }
        both("isConsistent", SpecBoard::isConsistent, m -> true);
    }

    private void writeWish(int wish) {
        both("writeWish " + wish, b -> b.writeWish(wish), m -> m.writeWish(wish));
        int index = number(44);
        both("lineAt " + index, b -> b.lineAt(index), m -> m.lineAt(index));
    }

    private void lookAtEverything() {
        for (int i = 0; i < 16; i++) {
            int w = i;
            both("writeWish " + w, b -> b.writeWish(w), m -> m.writeWish(w));
            both("touched " + w, b -> b.touched(w), m -> m.touched(w));
            both("changeByDropping " + w, b -> b.changeByDropping(w), m -> m.changeByDropping(w));
            for (int j = 0; j < 2; j++) {
                int r = j;
                both("passed " + w + " " + r, b -> b.passed(w, r), m -> m.passed(w, r));
                both("isCovered " + w + " " + r, b -> b.isCovered(w, r), m -> m.isCovered(w, r));
            }
        }
        for (int i = 0; i < 6; i++) {
            int r = i;
            both("left " + r, b -> b.left(r), m -> m.left(r));
            both("reasonAgainst " + r, b -> b.reasonAgainst(r), m -> m.reasonAgainst(r));
            both("coveredShare " + r, b -> b.coveredShare(r), m -> m.coveredShare(r));
            both("chance " + r, b -> b.chance(r), m -> m.chance(r));
        }
    }

    private void both(String what, Function<SpecBoard, Object> one, Function<Model, Object> two) {
        calls++;
        Object due = outcome(() -> two.apply(model), false);
        Object got = outcome(() -> one.apply(book), true);
        Check.same("call " + calls + " of run " + seed + ", " + what, due, got);
    }

    private interface Asked {
        Object answer();
    }

    private static Object outcome(Asked asked, boolean mustBeOwn) {
        try {
            return asked.answer();
        } catch (RuntimeException thrown) {
            if (mustBeOwn && !Check.isOwn(thrown)) {
                Check.tell("the machine or the library threw " + thrown);
            }
            return thrown.getClass().getName();
        }
    }
}
