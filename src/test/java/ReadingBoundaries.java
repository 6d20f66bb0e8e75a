/** Promises 17 to 24: how the current word is read. */
final class ReadingBoundaries extends Lab {
    /** A transition with a between each two of three states, so that runs multiply. */
    private static final String CROWD = "0a0,0a1,0a2,1a0,1a1,1a2,2a0,2a1,2a2";
    private static final String LETTERS = "aaaaaaaa";

    private ReadingBoundaries() {
    }

    static void tell(Book book) {
        accepts(book);
        acceptsRefused(book);
        runCount(book);
        acceptedArrangements(book);
        takeArrangement(book);
        takeArrangementRefused(book);
        oneWayJumps(book);
        oneWayRest(book);
        orderCost(book);
        orderPosition(book);
        orderPositionRefused(book);
    }

    private static void accepts(Book book) {
        book.says(17, "Returns whether the current word is accepted.", () -> {
            JumpingAutomata x = automaton(PAIRS, "abab");
            due("abab", true, () -> x.accepts(0));
            x.appendLetter(0);
            due("ababa", false, () -> x.accepts(0));
            x.appendLetter(1);
            due("ababab", true, () -> x.accepts(0));
            word(x, "bbaababa");
            due("a full word in order", false, () -> x.accepts(0));
            due("a full word jumping", true, () -> x.accepts(1));
            due("a full word one-way", true, () -> x.accepts(2));
        });
        book.says(17, "- `mode`: the mode, 0 to 2", () -> {
            allows(v -> automaton(PAIRS, "ba").accepts(v), v -> v != 0, 0, 1, 2);
            refuses(ARGUMENT, v -> automaton(PAIRS, "ba").accepts(v), -1, 3, LEAST, MOST);
        });
        book.says(17, "Returns whether it is accepted.", () -> {
            for (int mode = 0; mode < 3; mode++) {
                int m = mode;
                due("the empty word", true, () -> automaton("!0").accepts(m));
                due("the empty word, not final", false, () -> automaton("!1").accepts(m));
                due("a letter", true, () -> automaton("0c4,!4", "c").accepts(m));
                due("another letter", false, () -> automaton("0c4,!4", "b").accepts(m));
                due("no automaton", false, () -> automaton("!0", "a").accepts(m));
                Portrait.unchanged(false, x -> { }, x -> x.accepts(m));
            }
        });
    }

    private static void acceptsRefused(Book book) {
        book.says(17, "Throws `IllegalArgumentException` if the mode is out of range", () -> {
            for (int wrong : new int[] {-1, 3, LEAST, MOST}) {
                Portrait.refused(ARGUMENT, x -> x.accepts(wrong));
            }
        });
        book.says(17, "Throws `UnsupportedOperationException` if the mode is 2 and the automaton is not deterministic", () -> {
            JumpingAutomata x = automaton("0a1,4c4,!1", "a");
            due("deterministic", true, () -> x.accepts(2));
            x.addTransition(4, 2, 0);
            due("mode 0", true, () -> x.accepts(0));
            due("mode 1", true, () -> x.accepts(1));
            due("mode 2", UNSUPPORTED, () -> x.accepts(2));
            x.clearWord();
            due("mode 2, the empty word", UNSUPPORTED, () -> x.accepts(2));
            Portrait.refused(UNSUPPORTED, y -> y.addTransition(3, 2, 3), y -> y.accepts(2));
        });
    }

    private static void runCount(Book book) {
        book.says(18, "Returns the number of sequences of transitions from the initial state to a final state that read"
            + " the current word in order.", () -> {
            JumpingAutomata x = automaton("0a1,0a2,1b3,2b3,2b4,!3", "ab");
            due("two ways to one state", 2L, () -> x.runCount());
            x.setFinal(4, true);
            due("three to two states", 3L, () -> x.runCount());
            x.setFinal(1, true);
            due("not those that end before", 3L, () -> x.runCount());
            word(x, "ba");
            due("in order only", 0L, () -> x.runCount());
        });
        book.says(18, "Returns the number of sequences.", () -> {
            due("none", 0L, () -> none().runCount());
            due("the empty one", 1L, () -> automaton("!0").runCount());
            due("the empty one, with loops", 1L, () -> automaton(CROWD + " !0").runCount());
            due("a full word", 2187L, () -> automaton(CROWD + " !2", LETTERS).runCount());
            due("a full word, three final states", 6561L, () -> automaton(CROWD + " !0,!1,!2", LETTERS).runCount());
            due("fifteen transitions", 10935L, () -> automaton("0a0,0a1,0a2,0a3,0a4,1a0,1a1,1a2,1a3,1a4 "
                + "2a0,2a1,2a2,2a3,2a4,!0,!1,!2,!3,!4", LETTERS).runCount());
        });
    }

    private static void acceptedArrangements(Book book) {
        book.says(19, "Returns the number of different arrangements of the current word that are accepted in order.", () -> {
            due("the same letters", 1L, () -> automaton(ALL_WORDS, LETTERS).acceptedArrangements());
            due("aab", 3L, () -> automaton(ALL_WORDS, "aab").acceptedArrangements());
            due("only those that are accepted", 1L, () -> automaton(PAIRS, "bbaa").acceptedArrangements());
            due("once each, however many runs", 1L, () -> automaton(CROWD + " !0,!1,!2", "aaaa").acceptedArrangements());
            JumpingAutomata x = automaton(PAIRS, "bbaa");
            x.acceptedArrangements();
            due("the word stays", "bbaa", () -> wordOf(x));
        });
        book.says(19, "Returns the number of arrangements.", () -> {
            due("none", 0L, () -> automaton(PAIRS, "aab").acceptedArrangements());
            due("of the empty word", 1L, () -> automaton(PAIRS).acceptedArrangements());
            due("of the empty word, not final", 0L, () -> none().acceptedArrangements());
            due("the most", 560L, () -> automaton(ALL_WORDS, "abcabcab").acceptedArrangements());
        });
    }

    private static void takeArrangement(Book book) {
        book.says(20, "Replaces the current word by one of its arrangements that are accepted in order, in lexicographic"
            + " order.", () -> {
            String[] words = {"abc", "acb", "bac", "bca", "cab", "cba"};
            JumpingAutomata x = automaton(ALL_WORDS, "bca");
            for (int i = 0; i < words.length; i++) {
                x.takeArrangement(i);
                due("rank " + i, words[i], () -> wordOf(x));
            }
            JumpingAutomata y = automaton("0a1,0c1,1b2,2a3,2c3,!3", "bca");
            y.takeArrangement(0);
            due("the first accepted one", "abc", () -> wordOf(y));
            y.takeArrangement(1);
            due("the second accepted one", "cba", () -> wordOf(y));
        });
        book.says(20, "- `rank`: the rank, 0 or greater", () -> {
            allows(v -> automaton(ALL_WORDS, "aab").takeArrangement(v), v -> 3, 0, 1, 2);
            refuses(ARGUMENT, v -> automaton(ALL_WORDS, "aab").takeArrangement(v), -1, LEAST);
            refuses(ELEMENT, v -> automaton(ALL_WORDS, "aab").takeArrangement(v), 3, MOST);
        });
        book.says(20, "Returns the length of the word.", () -> {
            due("empty", 0, () -> automaton(PAIRS).takeArrangement(0));
            due("one letter", 1, () -> automaton(ALL_WORDS, "c").takeArrangement(0));
            due("a full word", 8, () -> automaton(ALL_WORDS, "abcabcab").takeArrangement(559));
        });
    }

    private static void takeArrangementRefused(Book book) {
        book.says(20, "Throws `IllegalArgumentException` if the rank is negative", () -> {
            for (int wrong : new int[] {-1, -2, LEAST}) {
                Portrait.refused(ARGUMENT, x -> x.takeArrangement(wrong));
                due("of the empty word", ARGUMENT, () -> automaton(PAIRS).takeArrangement(wrong));
            }
        });
        book.says(20, "Throws `NoSuchElementException` if there is no such arrangement", () -> {
            due("the last of a full word", 8, () -> automaton(ALL_WORDS, "abcabcab").takeArrangement(559));
            due("after the last", ELEMENT, () -> automaton(ALL_WORDS, "abcabcab").takeArrangement(560));
            due("of the empty word", ELEMENT, () -> automaton(PAIRS).takeArrangement(1));
            due("of none", ELEMENT, () -> automaton(PAIRS, "a").takeArrangement(0));
            for (int wrong : new int[] {0, 1, MOST}) {
                Portrait.refused(ELEMENT, x -> x.takeArrangement(wrong));
            }
            Portrait.refused(ELEMENT, x -> word(x, "ba"), x -> x.takeArrangement(1));
            Portrait.refused(ELEMENT, x -> word(x, "ba"), x -> x.takeArrangement(MOST));
        });
    }

    private static void oneWayJumps(Book book) {
        book.says(21, "Returns the number of jumps of one-way jumping on the current word, until the reading ends or all"
            + " letters are read.", () -> {
            due("until all are read", 2, () -> automaton("0a1,1b2,2c0", "cba").oneWayJumps());
            due("until the reading ends", 1, () -> automaton("0a1,1b2", "bcab").oneWayJumps());
            due("the end is no jump", 0, () -> automaton("0a1", "abc").oneWayJumps());
            due("many letters are passed by one jump", 1, () -> automaton("0a1,1b1", "bbbbbbba").oneWayJumps());
            due("past the end of the word", 2, () -> automaton("0a1,1c2,2b3,3b4", "cabb").oneWayJumps());
            due("whether it is accepted or not", 1, () -> automaton("0a1,1b0", "ba").oneWayJumps());
            JumpingAutomata x = automaton("0a1,1b0", "acc");
            due("letters are left", 0, () -> x.oneWayJumps());
            due("asked again, no jump is left over", 0, () -> x.oneWayJumps());
        });
        book.says(21, "Returns the number of jumps.", () -> {
            due("of the empty word", 0, () -> none().oneWayJumps());
            due("of a word that is read in order", 0, () -> automaton(PAIRS, "abababab").oneWayJumps());
            due("of a word without a transition", 0, () -> automaton(PAIRS, "cccccccc").oneWayJumps());
            due("many", 7, () -> automaton(PAIRS, "bbbbaaaa").oneWayJumps());
            Portrait.unchanged(1, x -> { }, x -> x.oneWayJumps());
        });
        book.says(21, "Throws `UnsupportedOperationException` if the automaton is not deterministic", () -> {
            due("two targets", UNSUPPORTED, () -> automaton(BRANCHING, "ab").oneWayJumps());
            due("the empty word", UNSUPPORTED, () -> automaton("4c3,4c4").oneWayJumps());
            due("two letters", 0, () -> automaton("0a0,0b0", "ab").oneWayJumps());
            Portrait.refused(UNSUPPORTED, x -> x.addTransition(0, 0, 4), x -> x.oneWayJumps());
        });
    }

    private static void oneWayRest(Book book) {
        book.says(22, "Returns the number of letters of the current word that are not read in one-way jumping.", () -> {
            due("all are read", 0, () -> automaton(PAIRS, "bbaa").oneWayRest());
            due("one is left", 1, () -> automaton(PAIRS, "bab").oneWayRest());
            due("read, but not final", 0, () -> automaton("0a1", "a").oneWayRest());
            due("letters that are passed stay", 2, () -> automaton("0a1,1a2", "baca").oneWayRest());
        });
        book.says(22, "Returns the number of letters.", () -> {
            due("of the empty word", 0, () -> none().oneWayRest());
            due("of a full word, none is read", 8, () -> automaton(PAIRS, "cccccccc").oneWayRest());
            due("of a full word, one is read", 7, () -> automaton("0a1,!1", "ccccccca").oneWayRest());
            due("of a full word, all are read", 0, () -> automaton(ALL_WORDS, "abcabcab").oneWayRest());
            Portrait.unchanged(0, x -> { }, x -> x.oneWayRest());
        });
        book.says(22, "Throws `UnsupportedOperationException` if the automaton is not deterministic", () -> {
            due("two targets", UNSUPPORTED, () -> automaton(BRANCHING, "ab").oneWayRest());
            due("the empty word", UNSUPPORTED, () -> automaton("4c3,4c4").oneWayRest());
            due("two letters", 0, () -> automaton("0a0,0b0", "ab").oneWayRest());
            Portrait.refused(UNSUPPORTED, x -> x.addTransition(0, 0, 4), x -> x.oneWayRest());
        });
    }

    private static void orderCost(Book book) {
        book.says(23, "Returns the cost of the best reading order of the current word.", () -> {
            due("one letter", 0, () -> automaton(ALL_WORDS, "b").orderCost());
            due("from left to right", 7, () -> automaton(ALL_WORDS, "abcabcab").orderCost());
            due("one step back", 2, () -> automaton(PAIRS, "ba").orderCost());
            due("from right to left", 6, () -> automaton("0a1,1b2,2b3,3b4,!4", "bbba").orderCost());
            for (int state = 1; state < 5; state++) {
                String texts = "0a" + state + "," + state + "b0,!0";
                due("to and fro, by state " + state, 32, () -> automaton(texts, "bbbbaaaa").orderCost());
            }
            costFollows(x -> remove(x, 0, 0, 1), ELEMENT);
            costFollows(x -> x.setFinal(0, false), ELEMENT);
            costFollows(x -> restore(x), ELEMENT);
            costFollows(x -> x.undo(), ELEMENT);
            costFollows(x -> x.clearWord(), 0);
            costFollows(x -> x.appendLetter(0), ELEMENT);
            costFollows(x -> x.takeArrangement(0), 1);
            costFollows(x -> x.addTransition(0, 1, 1) && x.addTransition(1, 0, 0), 1);
            costFollows(x -> {
                x.clearAutomaton();
                return "void";
            }, ELEMENT);
            costFollows(x -> {
                type(x, "0b1,1a0");
                return x.addText();
            }, 1);
        });
        book.says(23, "Returns the cost, 0 for the empty word.", () -> {
            due("empty and accepted", 0, () -> automaton(PAIRS).orderCost());
            JumpingAutomata x = automaton(PAIRS, "ba");
            x.orderCost();
            x.clearWord();
            due("empty again", 0, () -> x.orderCost());
            Portrait.unchanged(2, y -> word(y, "ba"), y -> y.orderCost());
        });
        book.says(23, "Throws `NoSuchElementException` if there is no reading order", () -> {
            due("no arrangement is accepted", ELEMENT, () -> automaton(PAIRS, "aab").orderCost());
            due("the empty word is not accepted", ELEMENT, () -> automaton("0a1,!1").orderCost());
            due("no automaton", ELEMENT, () -> none().orderCost());
            due("a full word", ELEMENT, () -> automaton(PAIRS, "aaaabbba").orderCost());
            Portrait.refused(ELEMENT, x -> x.orderCost());
        });
    }

    /** The cost is that of the word and the automaton as they are now, not as they were asked for before. */
    private static void costFollows(Act act, Object want) {
        JumpingAutomata x = none();
        x.save();
        read(x, "0a1,1b0 !0");
        word(x, "ba");
        due("before", 2, () -> x.orderCost());
        act.on(x);
        due("after", want, () -> x.orderCost());
    }

    private static void orderPosition(Book book) {
        book.says(24, "Returns a position in the best reading order of the current word.", () -> {
            due("to and fro", "10", () -> orderOf(automaton(PAIRS, "ba")));
            due("from right to left", "3210", () -> orderOf(automaton("0a1,1b2,2b3,3b4,!4", "bbba")));
            due("the first of the best", "2130", () -> orderOf(automaton(PAIRS, "bbaa")));
            due("a full word", "01234567", () -> orderOf(automaton(ALL_WORDS, LETTERS)));
        });
        book.says(24, "- `index`: the index in the order, from 0", () -> {
            allows(v -> automaton(ALL_WORDS, LETTERS).orderPosition(v), v -> v, 0, 1, 6, 7);
            refuses(INDEX, v -> automaton(ALL_WORDS, LETTERS).orderPosition(v), -1, 8, LEAST, MOST);
        });
        book.says(24, "Returns the position.", () -> {
            due("the only one", 0, () -> automaton(ALL_WORDS, "c").orderPosition(0));
            due("the last one first", 7, () -> automaton("0a1,1b1,!1", "bbbbbbba").orderPosition(0));
            Portrait.unchanged(1, x -> word(x, "ba"), x -> x.orderPosition(0));
        });
    }

    private static void orderPositionRefused(Book book) {
        book.says(24, "Throws `IndexOutOfBoundsException` if there is no such index", () -> {
            due("of the empty word", INDEX, () -> automaton(PAIRS).orderPosition(0));
            due("the last", 0, () -> automaton(PAIRS, "ba").orderPosition(1));
            due("after the last", INDEX, () -> automaton(PAIRS, "ba").orderPosition(2));
            for (int wrong : new int[] {-1, 2, 8, LEAST, MOST}) {
                Portrait.refused(INDEX, x -> word(x, "ba"), x -> x.orderPosition(wrong));
            }
        });
        book.says(24, "Throws `NoSuchElementException` if there is no reading order", () -> {
            due("the first", ELEMENT, () -> automaton(PAIRS, "aab").orderPosition(0));
            due("the last", ELEMENT, () -> automaton(PAIRS, "aab").orderPosition(2));
            due("a full word", ELEMENT, () -> automaton(PAIRS, LETTERS).orderPosition(7));
            Portrait.refused(ELEMENT, x -> x.orderPosition(2));
        });
    }
}
