/** Promises 39 to 42: numbers of words, and words that are not accepted in order. */
final class LanguageBoundaries extends Lab {
    private static final int[] NO_MODE = {-1, 3, LEAST, MOST};
    private static final int[] NO_LENGTH = {-1, 8, LEAST, MOST};
    /** In order only aaa and aaabaaa and longer words, so that the first open word has seven letters. */
    private static final String SEVENS = "0a1,1a2,2a3,3b0,!3";

    private LanguageBoundaries() {
    }

    static void tell(Book book) {
        acceptedWords(book);
        acceptedWordsRefused(book);
        isClosed(book);
        takeOpenWord(book);
        takeOpenWordRefused(book);
        density(book);
        densityRefused(book);
    }

    private static int power(int length) {
        int all = 1;
        for (int i = 0; i < length; i++) {
            all *= 3;
        }
        return all;
    }

    private static void acceptedWords(Book book) {
        book.says(39, "Returns how many words of a length are accepted.", () -> {
            JumpingAutomata x = automaton("0a1,0b2,2a3,!3", "ccc");
            due("in order", 1L, () -> x.acceptedWords(0, 2));
            due("jumping", 2L, () -> x.acceptedWords(1, 2));
            due("one-way", 1L, () -> x.acceptedWords(2, 2));
            due("of another length", 0L, () -> x.acceptedWords(1, 3));
            due("words, not runs", 1L, () -> automaton("0a1,0a2,!1,!2").acceptedWords(0, 1));
            due("the current word stays", "ccc", () -> wordOf(x));
        });
        book.says(39, "- `mode`: the mode, 0 to 2", () -> {
            allows(v -> automaton(PAIRS).acceptedWords(v, 2), v -> v == 0 ? 1L : 2L, 0, 1, 2);
            refuses(ARGUMENT, v -> automaton(PAIRS).acceptedWords(v, 2), NO_MODE);
        });
        book.says(39, "- `length`: the length, 0 to 7", () -> {
            for (int mode = 0; mode < 3; mode++) {
                int m = mode;
                allows(v -> automaton(ALL_WORDS).acceptedWords(m, v), v -> (long) power(v), 0, 1, 2, 3, 4, 5, 6, 7);
                refuses(ARGUMENT, v -> automaton(ALL_WORDS).acceptedWords(m, v), NO_LENGTH);
            }
        });
        book.says(39, "Returns the number of words.", () -> {
            for (int mode = 0; mode < 3; mode++) {
                int m = mode;
                due("none", 0L, () -> none().acceptedWords(m, 7));
                due("no empty word", 0L, () -> automaton("0a1,!1").acceptedWords(m, 0));
                due("the empty word", 1L, () -> automaton(PAIRS).acceptedWords(m, 0));
                due("all", 2187L, () -> automaton(ALL_WORDS).acceptedWords(m, 7));
                Portrait.unchanged(0L, x -> { }, x -> x.acceptedWords(m, 7));
            }
        });
    }

    private static void acceptedWordsRefused(Book book) {
        book.says(39, "Throws `IllegalArgumentException` if the mode or the length is out of range", () -> {
            for (int i = 0; i < NO_MODE.length; i++) {
                int mode = NO_MODE[i];
                int length = NO_LENGTH[i];
                Portrait.refused(ARGUMENT, x -> x.acceptedWords(mode, 3));
                Portrait.refused(ARGUMENT, x -> x.acceptedWords(1, length));
                Portrait.refused(ARGUMENT, x -> x.acceptedWords(mode, length));
            }
        });
        book.says(39, "Throws `UnsupportedOperationException` if the mode is 2 and the automaton is not deterministic", () -> {
            due("mode 0", 1L, () -> automaton(BRANCHING).acceptedWords(0, 0));
            due("mode 1", 1L, () -> automaton(BRANCHING).acceptedWords(1, 0));
            due("mode 2", UNSUPPORTED, () -> automaton(BRANCHING).acceptedWords(2, 0));
            due("mode 2, the greatest length", UNSUPPORTED, () -> automaton(BRANCHING).acceptedWords(2, 7));
            Portrait.refused(UNSUPPORTED, x -> x.addTransition(3, 2, 3), x -> x.acceptedWords(2, 4));
        });
    }

    private static void isClosed(Book book) {
        book.says(40, "Returns whether the words that are accepted in order are closed under arrangement up to a length:"
            + " whether each word with at most this length that is accepted jumping is accepted in order.", () -> {
            JumpingAutomata x = automaton(PAIRS);
            due("up to 1", true, () -> x.isClosed(1));
            due("up to 2", false, () -> x.isClosed(2));
            due("shorter words count too", false, () -> x.isClosed(3));
            due("words of one letter are closed", true, () -> automaton("0a1,1a2,!2").isClosed(7));
            due("both orders", true, () -> automaton("0a1,1b2,0b3,3a2,!2").isClosed(7));
        });
        book.says(40, "- `length`: the length, 0 to 7", () -> {
            allows(v -> automaton(SEVENS).isClosed(v), v -> v < 7, 0, 1, 2, 3, 4, 5, 6, 7);
            refuses(ARGUMENT, v -> automaton(SEVENS).isClosed(v), NO_LENGTH);
        });
        book.says(40, "Returns whether they are closed.", () -> {
            due("no words", true, () -> none().isClosed(7));
            due("all words", true, () -> automaton(ALL_WORDS).isClosed(7));
            due("the empty word", true, () -> automaton("!0").isClosed(0));
            Portrait.unchanged(false, x -> { }, x -> x.isClosed(7));
        });
        book.says(40, "Throws `IllegalArgumentException` if the length is out of range", () -> {
            for (int wrong : NO_LENGTH) {
                Portrait.refused(ARGUMENT, x -> x.isClosed(wrong));
            }
        });
    }

    private static void takeOpenWord(Book book) {
        book.says(41, "Makes the first word that is accepted jumping, but not in order, the current word.", () -> {
            JumpingAutomata x = automaton(PAIRS, "cccccccc");
            x.takeOpenWord(7);
            due("the word", "ba", () -> wordOf(x));
            due("it is accepted jumping", true, () -> x.accepts(1));
            due("but not in order", false, () -> x.accepts(0));
        });
        book.says(41, "Words are compared by their lengths first, and then lexicographically.", () -> {
            due("the length first", "cb", () -> openWord("0a1,1b2,2a3,0b4,4c3,!3", 7));
            due("then the letters", "aabc", () -> openWord("0c1,1b2,2a3,3a4,!4", 7));
            due("the first letter", "ac", () -> openWord("0c1,1a2,1b2,!2", 7));
            due("the last letter", "aaaaaab", () -> openWord(SEVENS, 7));
        });
        book.says(41, "- `length`: the greatest length that is considered, 0 to 7", () -> {
            allows(v -> automaton(PAIRS).takeOpenWord(v), v -> 2, 2, 3, 4, 5, 6, 7);
            allows(v -> automaton(SEVENS).takeOpenWord(v), v -> 7, 7);
            refuses(ELEMENT, v -> automaton(SEVENS).takeOpenWord(v), 0, 1, 2, 3, 4, 5, 6);
            refuses(ARGUMENT, v -> automaton(SEVENS).takeOpenWord(v), NO_LENGTH);
        });
        book.says(41, "Returns the length of the word.", () -> {
            due("the least", 2, () -> automaton(PAIRS).takeOpenWord(7));
            due("four", 4, () -> automaton("0c1,1b2,2a3,3a4,!4").takeOpenWord(7));
            due("the greatest", 7, () -> automaton(SEVENS).takeOpenWord(7));
        });
    }

    private static String openWord(String texts, int length) {
        JumpingAutomata x = automaton(texts);
        x.takeOpenWord(length);
        return wordOf(x);
    }

    private static void takeOpenWordRefused(Book book) {
        book.says(41, "Throws `IllegalArgumentException` if the length is out of range", () -> {
            for (int wrong : NO_LENGTH) {
                Portrait.refused(ARGUMENT, x -> x.takeOpenWord(wrong));
            }
        });
        book.says(41, "Throws `NoSuchElementException` if there is no such word", () -> {
            due("no words", ELEMENT, () -> none().takeOpenWord(7));
            due("all words", ELEMENT, () -> automaton(ALL_WORDS).takeOpenWord(7));
            due("too short", ELEMENT, () -> automaton(PAIRS).takeOpenWord(1));
            due("long enough", 2, () -> automaton(PAIRS).takeOpenWord(2));
            Portrait.refused(ELEMENT, x -> x.takeOpenWord(0));
            Portrait.refused(ELEMENT, x -> x.takeOpenWord(1));
            Portrait.refused(ELEMENT, x -> x.clearAutomaton(), x -> x.takeOpenWord(7));
        });
    }

    private static void density(Book book) {
        book.says(42, "Returns the share of accepted words of a length: the number of acceptedWords divided by the number"
            + " of all words of this length, both converted to double.", () -> {
            due("in order", 1.0 / 9.0, () -> automaton(PAIRS).density(0, 2));
            due("jumping", 20.0 / 729.0, () -> automaton(PAIRS).density(1, 6));
            due("one-way", 6.0 / 81.0, () -> automaton(PAIRS).density(2, 4));
            due("the longest", 7.0 / 2187.0, () -> automaton("0a1,1b1,!1").density(1, 7));
        });
        book.says(42, "- `mode`: the mode, 0 to 2", () -> {
            allows(v -> automaton(PAIRS).density(v, 2), v -> v == 0 ? 1.0 / 9.0 : 2.0 / 9.0, 0, 1, 2);
            refuses(ARGUMENT, v -> automaton(PAIRS).density(v, 2), NO_MODE);
        });
        book.says(42, "- `length`: the length, 0 to 7", () -> {
            for (int mode = 0; mode < 3; mode++) {
                int m = mode;
                allows(v -> automaton("0a0,!0").density(m, v), v -> 1.0 / (double) power(v), 0, 1, 2, 3, 4, 5, 6, 7);
                refuses(ARGUMENT, v -> automaton("0a0,!0").density(m, v), NO_LENGTH);
            }
        });
        book.says(42, "Returns the share.", () -> {
            for (int mode = 0; mode < 3; mode++) {
                int m = mode;
                due("none", 0.0, () -> none().density(m, 7));
                due("none of the empty word", 0.0, () -> none().density(m, 0));
                due("all", 1.0, () -> automaton(ALL_WORDS).density(m, 7));
                due("the empty word", 1.0, () -> automaton("!0").density(m, 0));
                Portrait.unchanged(0.0, x -> { }, x -> x.density(m, 7));
            }
        });
    }

    private static void densityRefused(Book book) {
        book.says(42, "Throws `IllegalArgumentException` if the mode or the length is out of range", () -> {
            for (int i = 0; i < NO_MODE.length; i++) {
                int mode = NO_MODE[i];
                int length = NO_LENGTH[i];
                Portrait.refused(ARGUMENT, x -> x.density(mode, 3));
                Portrait.refused(ARGUMENT, x -> x.density(1, length));
                Portrait.refused(ARGUMENT, x -> x.density(mode, length));
            }
        });
        book.says(42, "Throws `UnsupportedOperationException` if the mode is 2 and the automaton is not deterministic", () -> {
            due("mode 0", 1.0, () -> automaton(BRANCHING).density(0, 0));
            due("mode 1", 1.0, () -> automaton(BRANCHING).density(1, 0));
            due("mode 2", UNSUPPORTED, () -> automaton(BRANCHING).density(2, 0));
            due("mode 2, the greatest length", UNSUPPORTED, () -> automaton(BRANCHING).density(2, 7));
            Portrait.refused(UNSUPPORTED, x -> x.addTransition(3, 2, 3), x -> x.density(2, 4));
        });
    }
}
