/** Promises 13 to 16: the current word. */
final class WordBoundaries extends Lab {
    private static final int[] NO_LETTER = {-1, 3, LEAST, MOST};

    private WordBoundaries() {
    }

    static void tell(Book book) {
        appendLetter(book);
        appendLetterRefused(book);
        clearWord(book);
        wordLength(book);
        letterAt(book);
    }

    private static JumpingAutomata spelled(String letters) {
        JumpingAutomata x = none();
        word(x, letters);
        return x;
    }

    private static void appendLetter(Book book) {
        book.says(13, "Appends a letter to the current word.", () -> {
            JumpingAutomata x = spelled("cab");
            x.appendLetter(0);
            due("at the end", "caba", () -> wordOf(x));
        });
        book.says(13, "- `letter`: the letter, 0 to 2", () -> {
            allows(v -> none().appendLetter(v), v -> 1, 0, 1, 2);
            refuses(ARGUMENT, v -> none().appendLetter(v), NO_LETTER);
        });
        book.says(13, "Returns the new length of the word.", () -> {
            JumpingAutomata x = none();
            for (int i = 1; i <= 8; i++) {
                int length = i;
                due("length", length, () -> x.appendLetter(2));
            }
        });
    }

    private static void appendLetterRefused(Book book) {
        book.says(13, "Throws `IllegalArgumentException` if the letter is out of range", () -> {
            for (int wrong : NO_LETTER) {
                Portrait.refused(ARGUMENT, x -> x.appendLetter(wrong));
            }
            Portrait.refused(ARGUMENT, x -> x.appendLetter('a'));
        });
        book.says(13, "Throws `IllegalStateException` if the word has 8 letters", () -> {
            due("with 7", 8, () -> spelled("abcabca").appendLetter(1));
            due("with 8", STATE, () -> spelled("abcabcab").appendLetter(1));
            Portrait.refused(STATE, x -> word(x, "ccbbaacc"), x -> x.appendLetter(0));
            JumpingAutomata x = spelled("abcabcab");
            Check.answerOf(() -> x.appendLetter(2));
            due("the word stays", "abcabcab", () -> wordOf(x));
            x.clearWord();
            due("there is room again", 1, () -> x.appendLetter(2));
        });
    }

    private static void clearWord(Book book) {
        book.says(14, "Makes the current word empty.", () -> {
            JumpingAutomata x = spelled("abcabcab");
            x.clearWord();
            due("a full one", 0, () -> x.wordLength());
            due("no letter is left", INDEX, () -> x.letterAt(0));
            x.appendLetter(2);
            due("no old letter comes back", "c", () -> wordOf(x));
            JumpingAutomata y = automaton(PAIRS, "aab");
            y.clearWord();
            due("the empty word is read now", true, () -> y.accepts(0));
            due("the automaton stays", 2, () -> y.transitionCount());
        });
        book.says(14, "Returns the number of letters that it had.", () -> {
            due("of the empty word", 0, () -> none().clearWord());
            due("of one letter", 1, () -> spelled("c").clearWord());
            due("of a full word", 8, () -> spelled("abcabcab").clearWord());
            JumpingAutomata x = spelled("ab");
            x.clearWord();
            due("a second time", 0, () -> x.clearWord());
        });
    }

    private static void wordLength(Book book) {
        book.says(15, "Returns the length of the current word.", () -> {
            JumpingAutomata x = spelled("aaa");
            due("three", 3, () -> x.wordLength());
            x.appendLetter(1);
            due("four", 4, () -> x.wordLength());
        });
        book.says(15, "Returns 0 to 8.", () -> {
            due("empty", 0, () -> none().wordLength());
            JumpingAutomata x = spelled("abcabcab");
            Check.answerOf(() -> x.appendLetter(0));
            due("full", 8, () -> x.wordLength());
        });
    }

    private static void letterAt(Book book) {
        book.says(16, "Returns a letter of the current word.", () -> {
            JumpingAutomata x = spelled("bca");
            due("the first", 1, () -> x.letterAt(0));
            due("the second", 2, () -> x.letterAt(1));
            due("the third", 0, () -> x.letterAt(2));
        });
        book.says(16, "- `position`: the position, from 0", () -> {
            allows(v -> spelled("abcabcab").letterAt(v), v -> v % 3, 0, 1, 6, 7);
            refuses(INDEX, v -> spelled("abcabcab").letterAt(v), -1, 8, LEAST, MOST);
        });
        book.says(16, "Returns the letter.", () -> {
            due("a", 0, () -> spelled("a").letterAt(0));
            due("b", 1, () -> spelled("b").letterAt(0));
            due("c", 2, () -> spelled("c").letterAt(0));
        });
        book.says(16, "Throws `IndexOutOfBoundsException` if there is no such position", () -> {
            due("the empty word", INDEX, () -> none().letterAt(0));
            due("before the first", INDEX, () -> spelled("c").letterAt(-1));
            due("after the last", INDEX, () -> spelled("c").letterAt(1));
            for (int wrong : new int[] {-1, 3, 8, LEAST, MOST}) {
                Portrait.refused(INDEX, x -> x.letterAt(wrong));
            }
        });
    }
}
