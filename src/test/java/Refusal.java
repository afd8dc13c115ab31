/**
 * Calls that the document refuses: each must throw the one exception that is due, and change
 * nothing. What changed is looked for by comparing the book with one made by the same recipe.
 */
final class Refusal {
    interface Recipe {
        SpecBoard make();
    }

    interface Use {
        void on(SpecBoard book);
    }

    /** A use that takes a number. */
    interface Numbered {
        void on(SpecBoard book, int number);
    }

    private Refusal() {
    }

    static void of(String what, Class<? extends Exception> due, Recipe recipe, Use call) {
        ofEach(what, due, recipe, new int[1], (book, number) -> call.on(book));
    }

    /** The same for each of some numbers, one after the other on one book. */
    static void ofEach(String what, Class<? extends Exception> due, Recipe recipe, int[] numbers,
            Numbered call) {
        for (Probe probe : Probe.values()) {
            SpecBoard asked = recipe.make();
            for (int number : numbers) {
                Check.fails(what + " (" + number + ")", due, () -> call.on(asked, number));
            }
            Check.yes(what + ": refused, and consistent", asked.isConsistent());
            Answers.same(what + ": refused, and changed " + probe,
                probe.of(recipe.make()), probe.of(asked));
        }
    }

    /** A refused addWish empties the text buffer and changes nothing else; the recipe types nothing. */
    static void ofAddWish(String what, Class<? extends Exception> due, Recipe recipe, String text,
            int cost, int value) {
        for (Probe probe : Probe.values()) {
            SpecBoard asked = recipe.make();
            Books.type(asked, text);
            Check.fails(what, due, () -> asked.addWish(cost, value));
            Check.yes(what + ": refused, and consistent", asked.isConsistent());
            Answers.same(what + ": refused, and changed more than the text, " + probe,
                probe.of(recipe.make()), probe.of(asked));
        }
    }

    /** A call that only asks: whatever it answers, it changes nothing. */
    static void none(String what, Recipe recipe, Use call) {
        for (Probe probe : Probe.values()) {
            SpecBoard asked = recipe.make();
            call.on(asked);
            Answers.same(what + ": asked, and changed " + probe,
                probe.of(recipe.make()), probe.of(asked));
        }
    }
}
