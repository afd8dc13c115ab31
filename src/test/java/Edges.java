import java.util.stream.IntStream;

/** Numbers and characters at the edges of what the document accepts. */
final class Edges {
    private Edges() {
    }

    /**
     * Numbers outside a range: next to it on both sides, far off, and such as would fall into it
     * if they were negated, shifted or kept in a narrower type.
     */
    static int[] outside(int least, int most) {
        int[] tried = {
            least - 1, least - 2, most + 1, most + 2, -1, -most, ~most,
            least + 32, most - 32, least + 256, most - 256, least + 65536, most - 65536,
            1 << 30, Integer.MIN_VALUE, Integer.MIN_VALUE + 1, Integer.MIN_VALUE + most,
            Integer.MAX_VALUE, Integer.MAX_VALUE - 1};
        return IntStream.of(tried).filter(n -> n < least || n > most).distinct().toArray();
    }

    /** What takes one character, on a book. */
    interface Taking {
        void take(SpecBoard book, char character);
    }

    /** Of all the characters there are, those not named must be refused. */
    static void allOtherCharacters(String what, String named, Class<? extends Exception> due,
            Refusal.Recipe recipe, Taking call) {
        SpecBoard book = recipe.make();
        for (int i = 0; i <= Character.MAX_VALUE; i++) {
            char character = (char) i;
            if (named.indexOf(character) >= 0) {
                continue;
            }
            // A new book in time: one book is for 512 calls.
            if (i % 256 == 0) {
                book = recipe.make();
            }
            SpecBoard asked = book;
            Check.fails(what + ", character " + i, due, () -> call.take(asked, character));
        }
    }
}
