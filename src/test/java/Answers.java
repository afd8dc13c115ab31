import java.util.ArrayList;
import java.util.List;

/** The answers of a row of calls, exceptions among them, so that two books can be compared. */
final class Answers {
    interface Asked {
        Object answer();
    }

    private final List<String> rows = new ArrayList<>();

    void ask(String what, Asked asked) {
        rows.add(what + " answers " + outcomeOf(asked));
    }

    static String outcomeOf(Asked asked) {
        try {
            return String.valueOf(asked.answer());
        } catch (RuntimeException thrown) {
            return thrown.getClass().getName();
        }
    }

    /** Tells the first row in which two books differ. */
    static void same(String what, Answers due, Answers got) {
        int shorter = Math.min(due.rows.size(), got.rows.size());
        for (int i = 0; i < shorter; i++) {
            if (!due.rows.get(i).equals(got.rows.get(i))) {
                Check.same(what, due.rows.get(i), got.rows.get(i));
                return;
            }
        }
        Check.same(what, due.rows.size(), got.rows.size());
    }
}
