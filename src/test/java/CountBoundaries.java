/** Promises 25 to 29, 35 and 43: the counts of the automaton. */
final class CountBoundaries extends Lab {
    private static final int[] NO_NUMBER = {-1, 10, LEAST, MOST};
    /** Every word of four letters, and nothing else. */
    private static final String FOURS = "0a1,0b1,0c1,1a2,1b2,1c2,2a3,2b3,2c3 3a4,3b4,3c4,!4";
    /** A ring of five states in which each letter leads on. */
    private static final String RING = "0a1,0b1,0c1,1a2,1b2,1c2,2a3,2b3,2c3 3a4,3b4,3c4,4a0,4b0,4c0,!3";

    private CountBoundaries() {
    }

    static void tell(Book book) {
        reaches(book);
        minimals(book);
        minimalRefused(book);
        cycles(book);
        cycleRefused(book);
        reachedCounts(book);
        averageMinimum(book);
    }

    private static void reaches(Book book) {
        book.says(25, "Returns whether counts are reached.", () -> {
            JumpingAutomata x = automaton("0b1,1a2,2c3,!3");
            due("bac", true, () -> x.reaches(1, 1, 1));
            due("one less", false, () -> x.reaches(1, 1, 0));
            due("one more", false, () -> x.reaches(1, 2, 1));
        });
        book.says(25, "- `a`: the number of letters a, 0 to 9", () -> {
            allows(v -> automaton("0a0,!0").reaches(v, 0, 0), v -> true, 0, 1, 8, 9);
            refuses(ARGUMENT, v -> automaton("0a0,!0").reaches(v, 0, 0), NO_NUMBER);
        });
        book.says(25, "- `b`: the number of letters b, 0 to 9", () -> {
            allows(v -> automaton("0b0,!0").reaches(0, v, 0), v -> true, 0, 1, 8, 9);
            refuses(ARGUMENT, v -> automaton("0b0,!0").reaches(0, v, 0), NO_NUMBER);
        });
        book.says(25, "- `c`: the number of letters c, 0 to 9", () -> {
            allows(v -> automaton("0c0,!0").reaches(0, 0, v), v -> true, 0, 1, 8, 9);
            refuses(ARGUMENT, v -> automaton("0c0,!0").reaches(0, 0, v), NO_NUMBER);
        });
        book.says(25, "Returns whether they are reached.", () -> {
            due("the empty word", true, () -> automaton("!0").reaches(0, 0, 0));
            due("the empty word, not final", false, () -> none().reaches(0, 0, 0));
            due("27 letters", true, () -> automaton("0a1,1b2,2c0,!0").reaches(9, 9, 9));
            due("26 letters", false, () -> automaton("0a1,1b2,2c0,!0").reaches(9, 9, 8));
            Portrait.unchanged(true, x -> { }, x -> x.reaches(9, 9, 8));
        });
        book.says(25, "Throws `IllegalArgumentException` if a number is out of range", () -> {
            for (int wrong : NO_NUMBER) {
                Portrait.refused(ARGUMENT, x -> x.reaches(wrong, 0, 0));
                Portrait.refused(ARGUMENT, x -> x.reaches(0, wrong, 0));
                Portrait.refused(ARGUMENT, x -> x.reaches(0, 0, wrong));
            }
            Portrait.refused(ARGUMENT, x -> x.reaches(1, -10, 0));
            Portrait.refused(ARGUMENT, x -> x.reaches(-1, 100, 10));
        });
    }

    private static void minimals(Book book) {
        book.says(26, "Returns how many minimal counts there are.", () -> {
            due("two ways", 2, () -> automaton("0a1,0b2,2b1,!1").minimalCount());
            due("one is below the other", 1, () -> automaton("0a1,0a2,2b1,!1").minimalCount());
            due("two ways with the same counts", 1, () -> automaton("0a1,1b2,0b3,3a2,!2").minimalCount());
        });
        book.says(26, "Returns the number.", () -> {
            due("none", 0, () -> none().minimalCount());
            due("only the empty word", 1, () -> automaton(ALL_WORDS).minimalCount());
            due("the most of four letters", 15, () -> automaton(FOURS).minimalCount());
            Portrait.unchanged(1, x -> { }, x -> x.minimalCount());
        });
        book.says(27, "Returns minimal counts.", () -> {
            due("the longest", 400, () -> automaton("0a1,1a2,2a3,3a4,!4").minimal(0));
            due("not with a cycle", 100, () -> automaton("0a1,1b1,!1").minimal(0));
            due("of the empty word", 0, () -> automaton(ALL_WORDS).minimal(0));
        });
        book.says(27, "- `index`: the number of the minimal counts", () -> {
            due("all of four letters", "4 13 22 31 40 103 112 121 130 202 211 220 301 310 400",
                () -> minimalsOf(automaton(FOURS)));
            refuses(INDEX, v -> automaton(FOURS).minimal(v), -1, 15, LEAST, MOST);
        });
        book.says(27, "Returns 100 times the first number plus 10 times the second one plus the third one.", () -> {
            due("a", 100, () -> automaton("0a1,!1").minimal(0));
            due("b", 10, () -> automaton("0b1,!1").minimal(0));
            due("c", 1, () -> automaton("0c1,!1").minimal(0));
            due("cabc", 112, () -> automaton("0c1,1a2,2b3,3c4,!4").minimal(0));
            Portrait.unchanged(110, x -> { }, x -> x.minimal(0));
        });
    }

    private static void minimalRefused(Book book) {
        book.says(27, "Throws `IndexOutOfBoundsException` if there are no such minimal counts", () -> {
            due("of none", INDEX, () -> none().minimal(0));
            due("the last", 100, () -> automaton("0a1,0b1,!1").minimal(1));
            due("after the last", INDEX, () -> automaton("0a1,0b1,!1").minimal(2));
            for (int wrong : new int[] {-1, 1, 15, LEAST, MOST}) {
                Portrait.refused(INDEX, x -> x.minimal(wrong));
            }
        });
    }

    private static void cycles(Book book) {
        book.says(28, "Returns how many cycle counts there are.", () -> {
            due("a loop", 1, () -> automaton("0a0,!0").cycleCount());
            due("a loop and a cycle of two", 2, () -> automaton("0a0,0b1,1b0,!0").cycleCount());
            due("two loops with the same letter", 1, () -> automaton("0a0,0b1,1a1,!1").cycleCount());
        });
        book.says(28, "Returns the number.", () -> {
            due("none", 0, () -> none().cycleCount());
            due("no cycle", 0, () -> automaton("0a1,!1").cycleCount());
            due("a ring of five states", 21, () -> automaton(RING).cycleCount());
            Portrait.unchanged(1, x -> { }, x -> x.cycleCount());
        });
        book.says(29, "Returns cycle counts.", () -> {
            due("a loop", 100, () -> automaton("0a0,!0").cycle(0));
            due("the longest", 221, () -> automaton("0a1,1b2,2c3,3a4,4b0,!4").cycle(0));
        });
        book.says(29, "- `index`: the number of the cycle counts", () -> {
            due("all of five letters", "5 14 23 32 41 50 104 113 122 131 140 203 212 221 230 302 311 320 401 410 500",
                () -> cyclesOf(automaton(RING)));
            refuses(INDEX, v -> automaton(RING).cycle(v), -1, 21, LEAST, MOST);
        });
        book.says(29, "Returns 100 times the first number plus 10 times the second one plus the third one.", () -> {
            due("a", 100, () -> automaton("0a0,!0").cycle(0));
            due("b", 10, () -> automaton("0b0,!0").cycle(0));
            due("c", 1, () -> automaton("0c0,!0").cycle(0));
            Portrait.unchanged(111, x -> { }, x -> x.cycle(0));
        });
    }

    private static void cycleRefused(Book book) {
        book.says(29, "Throws `IndexOutOfBoundsException` if there are no such cycle counts", () -> {
            due("of none", INDEX, () -> none().cycle(0));
            due("the last", 100, () -> automaton("0a0,0b0,!0").cycle(1));
            due("after the last", INDEX, () -> automaton("0a0,0b0,!0").cycle(2));
            for (int wrong : new int[] {-1, 1, 21, LEAST, MOST}) {
                Portrait.refused(INDEX, x -> x.cycle(wrong));
            }
        });
    }

    private static void reachedCounts(Book book) {
        book.says(35, "Returns how many counts with numbers from 0 to a bound are reached.", () -> {
            JumpingAutomata x = automaton("0a1,1a2,2b3,!1,!2,!3");
            due("within 0", 0, () -> x.reachedCounts(0));
            due("within 1", 1, () -> x.reachedCounts(1));
            due("within 2", 3, () -> x.reachedCounts(2));
            due("counts, not words", 1, () -> automaton("0a1,1b2,0b3,3a2,!2").reachedCounts(1));
        });
        book.says(35, "- `bound`: the bound, 0 to 6", () -> {
            allows(v -> automaton(ALL_WORDS).reachedCounts(v), v -> (v + 1) * (v + 1) * (v + 1), 0, 1, 2, 3, 4, 5, 6);
            refuses(ARGUMENT, v -> automaton(ALL_WORDS).reachedCounts(v), -1, 7, LEAST, MOST);
        });
        book.says(35, "Returns the number of counts.", () -> {
            due("none", 0, () -> none().reachedCounts(6));
            due("the empty word", 1, () -> automaton("!0").reachedCounts(6));
            due("all", 343, () -> automaton(ALL_WORDS).reachedCounts(6));
            Portrait.unchanged(6, x -> { }, x -> x.reachedCounts(6));
        });
        book.says(35, "Throws `IllegalArgumentException` if the bound is out of range", () -> {
            for (int wrong : new int[] {-1, 7, 9, LEAST, MOST}) {
                Portrait.refused(ARGUMENT, x -> x.reachedCounts(wrong));
            }
        });
    }

    private static void averageMinimum(Book book) {
        book.says(43, "Returns the average length of words with minimal counts: the sum of all numbers of all minimal"
            + " counts, divided by the number of minimal counts, both converted to float.", () -> {
            due("of 1 and 2", 1.5f, () -> automaton("0a1,0b2,2b1,!1").averageMinimum());
            due("of 1, 1 and 2", 4.0f / 3.0f, () -> automaton("0a1,0b1,0c2,2c1,!1").averageMinimum());
            due("of 1, 2 and 2", 5.0f / 3.0f, () -> automaton("0a1,0b2,2b1,0c3,3c1,!1").averageMinimum());
        });
        book.says(43, "Returns the average.", () -> {
            due("of the empty word", 0.0f, () -> automaton("!0").averageMinimum());
            due("of the longest", 4.0f, () -> automaton(FOURS).averageMinimum());
            Portrait.unchanged(2.0f, x -> { }, x -> x.averageMinimum());
        });
        book.says(43, "Throws `ArithmeticException` if there are no minimal counts", () -> {
            due("no automaton", ARITHMETIC, () -> none().averageMinimum());
            due("no final state", ARITHMETIC, () -> automaton("0a0").averageMinimum());
            due("no final state that is reached", ARITHMETIC, () -> automaton("0a1,2b3,!3").averageMinimum());
            Portrait.refused(ARITHMETIC, x -> x.setFinal(2, false), x -> x.averageMinimum());
        });
    }
}
