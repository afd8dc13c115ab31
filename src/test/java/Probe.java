/**
 * Looks at a book by its public calls alone. All probes together see every part of it; most change
 * the book to bring out what no answer tells. Each stays below 300 calls, as one book is for 512.
 */
enum Probe {
    FIGURES {
        @Override
        void ask(SpecBoard book, Answers answers) {
            answers.ask("wishNamed", book::wishNamed);
            for (int i = 0; i < 45; i++) {
                int index = i;
                answers.ask("lineAt " + i, () -> book.lineAt(index));
            }
            for (int i = 0; i <= 16; i++) {
                int wish = i;
                answers.ask("state " + i, () -> book.state(wish));
                answers.ask("parentOf " + i, () -> book.parentOf(wish));
                answers.ask("touched " + i, () -> book.touched(wish));
                answers.ask("releaseOf " + i, () -> book.releaseOf(wish));
                answers.ask("changeByDropping " + i, () -> book.changeByDropping(wish));
            }
            for (int i = 0; i <= 6; i++) {
                int release = i;
                answers.ask("left " + i, () -> book.left(release));
                answers.ask("reasonAgainst " + i, () -> book.reasonAgainst(release));
                answers.ask("coveredShare " + i, () -> book.coveredShare(release));
                answers.ask("bestValue " + i, () -> book.bestValue(release));
            }
            risks(book, answers);
            for (char kind : new char[] {'w', 't', 'r'}) {
                answers.ask("openEnds " + kind, () -> book.openEnds(kind));
                answers.ask("openAt " + kind, () -> book.openAt(kind, 0));
            }
            answers.ask("isConsistent", book::isConsistent);
        }
    },

    BASELINES {
        @Override
        void ask(SpecBoard book, Answers answers) {
            differences(book, answers);
            answers.ask("makeBaseline", book::makeBaseline);
            differences(book, answers);
        }

        private void differences(SpecBoard book, Answers answers) {
            for (int i = 0; i <= 5; i++) {
                for (int j = 0; j <= i; j++) {
                    int one = i;
                    int other = j;
                    answers.ask("differences " + i + " " + j, () -> book.differences(one, other));
                }
            }
        }
    },

    COVERAGE {
        @Override
        void ask(SpecBoard book, Answers answers) {
            for (int i = 0; i < 16; i++) {
                for (int j = 0; j < 6; j++) {
                    int wish = i;
                    int release = j;
                    answers.ask("passed " + i + " " + j, () -> book.passed(wish, release));
                    answers.ask("isCovered " + i + " " + j, () -> book.isCovered(wish, release));
                }
            }
        }
    },

    RESULTS {
        @Override
        void ask(SpecBoard book, Answers answers) {
            for (int i = 0; i < 16; i++) {
                for (int j = 0; j < 6; j++) {
                    int test = i;
                    int release = j;
                    answers.ask("result " + i + " " + j, () -> book.result(test, release, '-'));
                }
            }
        }
    },

    COVERS {
        @Override
        void ask(SpecBoard book, Answers answers) {
            for (int i = 0; i < 16; i++) {
                for (int j = 0; j < 16; j++) {
                    int test = i;
                    int wish = j;
                    answers.ask("cover " + i + " " + j, () -> book.cover(test, wish));
                }
            }
        }
    },

    NEEDS {
        @Override
        void ask(SpecBoard book, Answers answers) {
            for (int i = 0; i < 16; i++) {
                for (int j = 0; j < 16; j++) {
                    int wish = i;
                    int other = j;
                    answers.ask("need " + i + " " + j, () -> book.need(wish, other));
                }
            }
        }
    },

    EXCLUSIONS {
        @Override
        void ask(SpecBoard book, Answers answers) {
            for (int i = 0; i < 16; i++) {
                for (int j = 0; j < i; j++) {
                    int wish = i;
                    int other = j;
                    answers.ask("exclude " + i + " " + j, () -> book.exclude(wish, other));
                }
            }
        }
    },

    NAMES {
        @Override
        void ask(SpecBoard book, Answers answers) {
            for (int i = 0; i < 16; i++) {
                int wish = i;
                answers.ask("writeWish " + i, () -> book.writeWish(wish));
                for (int j = 0; j < 8; j++) {
                    int index = j;
                    answers.ask("lineAt " + j, () -> book.lineAt(index));
                }
            }
        }
    },

    TEXT {
        @Override
        void ask(SpecBoard book, Answers answers) {
            for (int i = 0; i < 9; i++) {
                answers.ask("wishNamed", book::wishNamed);
                answers.ask("type", () -> book.type('q'));
            }
            answers.ask("addWish", () -> book.addWish(1, 1));
            for (int i = 0; i < 16; i++) {
                int wish = i;
                answers.ask("writeWish " + i, () -> book.writeWish(wish));
            }
            for (int i = 0; i < 8; i++) {
                int index = i;
                answers.ask("lineAt " + i, () -> book.lineAt(index));
            }
        }
    },

    FUTURE {
        @Override
        void ask(SpecBoard book, Answers answers) {
            acceptAndPlan(book, answers);
            for (int i = 0; i < 6; i++) {
                int release = i;
                answers.ask("left " + i, () -> book.left(release));
                answers.ask("ship " + i, () -> book.ship(release));
            }
            risks(book, answers);
            for (int i = 0; i < 16; i++) {
                int wish = i;
                answers.ask("drop " + i, () -> book.drop(wish));
            }
            risks(book, answers);
            answers.ask("addTest", book::addTest);
            answers.ask("addRelease", () -> book.addRelease(1));
            answers.ask("addRisk", () -> book.addRisk(1, 1));
            answers.ask("makeBaseline", book::makeBaseline);
            answers.ask("isConsistent", book::isConsistent);
        }

        /** One test, the first, comes to cover all wishes and passes everywhere. */
        private void acceptAndPlan(SpecBoard book, Answers answers) {
            for (int i = 0; i < 16; i++) {
                int wish = i;
                answers.ask("accept " + i, () -> book.accept(wish));
                answers.ask("cover " + i, () -> book.cover(0, wish));
            }
            for (int i = 0; i < 6; i++) {
                int release = i;
                answers.ask("bestValue " + i, () -> book.bestValue(release));
                answers.ask("result " + i, () -> book.result(0, release, 'p'));
            }
            for (int i = 0; i < 16; i++) {
                int wish = i;
                answers.ask("plan " + i, () -> book.plan(wish, wish % 6));
            }
        }
    };

    abstract void ask(SpecBoard book, Answers answers);

    Answers of(SpecBoard book) {
        Answers answers = new Answers();
        ask(book, answers);
        return answers;
    }

    private static void risks(SpecBoard book, Answers answers) {
        for (int i = 0; i <= 8; i++) {
            int risk = i;
            answers.ask("chance " + i, () -> book.chance(risk));
        }
        answers.ask("exposure", book::exposure);
        answers.ask("meanChance", book::meanChance);
    }
}
