import java.util.HashSet;
import java.util.Set;

/** What the description says of automata, words, modes, counts, counting sets and texts. */
final class DescriptionBoundaries extends Lab {
    private static final int D = Book.DESCRIPTION;

    private DescriptionBoundaries() {
    }

    static void tell(Book book) {
        transitions(book);
        states(book);
        words(book);
        modes(book);
        oneWaySteps(book);
        oneWayEnds(book);
        readingOrders(book);
        minimals(book);
        cycles(book);
        sets(book);
        linearSets(book);
        texts(book);
    }

    private static void transitions(Book book) {
        book.says(D, "The automaton has the states 0 to 4, the letters a, b and c, numbered 0 to 2, and at most 15 different"
            + " transitions; a transition leads from a state to a state with a letter.", () -> {
            JumpingAutomata full = automaton(FIFTEEN);
            for (int code = 0; code < 75; code++) {
                int from = code / 15;
                int letter = code / 5 % 3;
                int to = code % 5;
                String item = "" + from + (char) ('a' + letter) + to;
                due(item + " in an empty automaton", true, () -> none().addTransition(from, letter, to));
                due(item + " in a full one", FIFTEEN.contains(item) ? false : STATE,
                    () -> full.addTransition(from, letter, to));
            }
            due("still fifteen", 15, () -> full.transitionCount());
        });
        book.says(D, "The transitions are ordered by their sources, then by their letters, then by their targets.", () -> {
            JumpingAutomata x = none();
            for (int i = 14; i >= 0; i--) {
                x.addTransition(2 + i % 3, i / 3 % 3, i % 5);
            }
            due("fifteen, added backwards", 15, () -> x.transitionCount());
            for (int i = 1; i < 15; i++) {
                int index = i;
                due("one before the other", true, () -> x.transition(index - 1) < x.transition(index));
            }
            due("the source first", "24 100", () -> listOf(automaton("1a0,0c4")));
            due("then the letter", "4 10", () -> listOf(automaton("0b0,0a4")));
            due("then the target", "0 1", () -> listOf(automaton("0a1,0a0")));
        });
    }

    private static void states(Book book) {
        book.says(D, "State 0 is the initial state.", () -> {
            due("state 0 is final", true, () -> automaton("!0").accepts(0));
            due("all others are final", false, () -> automaton("!1,!2,!3,!4").accepts(0));
        });
        book.says(D, "Some states are final; at first no state is, and there are no transitions.", () -> {
            due("at first", "", () -> finalsOf(none()));
            due("no transitions", 0, () -> none().transitionCount());
            due("some", "024", () -> finalsOf(automaton("!0,!2,!4")));
            due("all", "01234", () -> finalsOf(automaton("!0,!1,!2,!3,!4")));
        });
        book.says(D, "The automaton is deterministic if no two transitions have the same source and the same letter.", () -> {
            due("the same source", true, () -> automaton("1a2,1b2,1c2").isDeterministic());
            due("the same letter", true, () -> automaton("0b0,1b0,2b0,3b0,4b0").isDeterministic());
            due("both", false, () -> automaton("0a0,4c0,4c4").isDeterministic());
            due("the same transition twice", true, () -> automaton("4c4,4c4").isDeterministic());
        });
    }

    private static void words(Book book) {
        book.says(D, "A word is a sequence of letters.", () -> {
            due("in this order, and more than once", "cabbac", () -> wordOf(automaton("!0", "cabbac")));
        });
        book.says(D, "There is one current word of at most 8 letters, which is empty at first; its positions are numbered"
            + " from 0.", () -> {
            due("at first", 0, () -> none().wordLength());
            JumpingAutomata x = automaton("!0", "cbacbac");
            due("the 8th", 8, () -> x.appendLetter(1));
            due("the 9th", STATE, () -> x.appendLetter(1));
            due("position 0", 2, () -> x.letterAt(0));
            due("position 7", 1, () -> x.letterAt(7));
            due("position 8", INDEX, () -> x.letterAt(8));
        });
        book.says(D, "Words are compared lexicographically by their letters.", () -> {
            JumpingAutomata x = automaton(ALL_WORDS, "cbba");
            String[] due = {"abbc", "abcb", "acbb", "babc", "bacb", "bbac", "bbca", "bcab", "bcba", "cabb", "cbab", "cbba"};
            for (int i = 0; i < due.length; i++) {
                x.takeArrangement(i);
                due("rank " + i, due[i], () -> wordOf(x));
            }
            due("no more", ELEMENT, () -> x.takeArrangement(due.length));
        });
        book.says(D, "An arrangement of a word is a word that has each letter as often as this word.", () -> {
            due("of aab", 3L, () -> automaton(ALL_WORDS, "aab").acceptedArrangements());
            due("itself", 1L, () -> automaton("0a1,1b2,!2", "ab").acceptedArrangements());
            due("not shorter", 0L, () -> automaton("0a1,1b2,!2", "aab").acceptedArrangements());
            due("not longer", 0L, () -> automaton("0a1,1b2,!2", "b").acceptedArrangements());
            due("not other letters", 0L, () -> automaton("0a1,1b2,!2", "bb").acceptedArrangements());
            due("of the empty word", 1L, () -> automaton("!0").acceptedArrangements());
        });
        book.says(D, "The counts of a word are the numbers of its letters a, b and c; counts are three ints.", () -> {
            JumpingAutomata x = automaton("0b1,1a2,2b3,3b4,!4");
            due("of babb", true, () -> x.reaches(1, 3, 0));
            due("a and b exchanged", false, () -> x.reaches(3, 1, 0));
            due("b and c exchanged", false, () -> x.reaches(1, 0, 3));
        });
    }

    private static void modes(Book book) {
        book.says(D, "In order (mode 0), a word is accepted if there is a sequence of transitions from the initial state to"
            + " a final state that reads its letters from left to right.", () -> {
            due("from left to right", true, () -> automaton("0a1,1b2,!2", "ab").accepts(0));
            due("not from right to left", false, () -> automaton("0a1,1b2,!2", "ba").accepts(0));
            due("not to its middle", false, () -> automaton("0a1,1b2,!1", "ab").accepts(0));
            due("not beyond its end", false, () -> automaton("0a1,1b2,!2", "abb").accepts(0));
            due("not from another state", false, () -> automaton("1a2,!2", "a").accepts(0));
            due("one sequence is enough", true, () -> automaton("0a1,0a2,0a3,3b4,!4", "ab").accepts(0));
            due("no transitions for the empty word", true, () -> automaton("!0").accepts(0));
        });
        book.says(D, "Jumping (mode 1), a word is accepted if at least one of its arrangements is accepted in order.", () -> {
            due("one arrangement", true, () -> automaton("0a1,1b2,2c3,!3", "cba").accepts(1));
            due("none", false, () -> automaton("0a1,1b2,2c3,!3", "cbb").accepts(1));
            due("the word itself", true, () -> automaton("0a1,1b2,!2", "ab").accepts(1));
            due("not with fewer letters", false, () -> automaton("0a1,1b2,!2,!1", "bab").accepts(1));
            due("with eight letters", true, () -> automaton("0a0,0b1,1c1,!1", "cccbaaaa").accepts(1));
            due("with eight of one letter", true, () -> automaton("0c0,!0", "cccccccc").accepts(1));
        });
        book.says(D, "One-way jumping (mode 2) needs a deterministic automaton.", () -> {
            due("it is", true, () -> automaton("0a1,!1", "a").accepts(2));
            due("it is not, where no word comes", UNSUPPORTED, () -> automaton("0a1,4c3,4c2,!1", "a").accepts(2));
            due("jumps", UNSUPPORTED, () -> automaton("0a1,4c3,4c2,!1", "a").oneWayJumps());
            due("rest", UNSUPPORTED, () -> automaton("0a1,4c3,4c2,!1", "a").oneWayRest());
            due("words", UNSUPPORTED, () -> automaton("0a1,4c3,4c2,!1").acceptedWords(2, 1));
            due("density", UNSUPPORTED, () -> automaton("0a1,4c3,4c2,!1").density(2, 1));
        });
    }

    private static void oneWaySteps(Book book) {
        book.says(D, "The letters that have not been read form a circle in the order of the word, and the head is at the"
            + " first letter of the word at first.", () -> {
            due("ab begins with a", true, () -> automaton("0a1,0b2,1b3,!3", "ab").accepts(2));
            due("ba begins with b", false, () -> automaton("0a1,0b2,1b3,!3", "ba").accepts(2));
            due("the first follows the last", true, () -> automaton("0c1,1a2,2b3,!3", "abc").accepts(2));
            due("without a jump", 1, () -> automaton("0c1,1a2,2b3,!3", "abc").oneWayJumps());
        });
        book.says(D, "In each step, if there is a transition from the present state with the letter under the head, the"
            + " letter is read, the transition is used, and the head moves to the next letter of the circle that is"
            + " left.", () -> {
            JumpingAutomata x = automaton("0b1,1a2,1c3,3a4,!4", "abc");
            due("c follows b, not a", true, () -> x.accepts(2));
            due("then a, past the end", 1, () -> x.oneWayJumps());
            due("letters that were read are gone", 0, () -> automaton("0a1,1a2", "aa").oneWayRest());
            due("no letter is read twice", 0, () -> automaton("0a0", "a").oneWayRest());
            due("a step that must be taken", false, () -> automaton("0a1,0b2,2a3,!3", "ab").accepts(2));
        });
        book.says(D, "Otherwise the head moves on along the circle to the nearest letter for which there is a transition from"
            + " the present state, and this is one jump; the letters that are passed stay.", () -> {
            JumpingAutomata x = automaton("0c1,0a2,1a3,3b4,!4", "bca");
            due("the nearest is c", true, () -> x.accepts(2));
            due("one jump", 1, () -> x.oneWayJumps());
            due("past seven letters", 1, () -> automaton("0a1,1b1,!1", "bbbbbbba").oneWayJumps());
            due("they stay", 7, () -> automaton("0a1,!1", "bbbbbbba").oneWayRest());
            due("past the end of the word", 2, () -> automaton("0a1,1c2,2b3,3b4,!4", "cabb").oneWayJumps());
            due("and on", true, () -> automaton("0a1,1c2,2b3,3b4,!4", "cabb").accepts(2));
        });
    }

    private static void oneWayEnds(Book book) {
        book.says(D, "If there is no such letter, the reading ends.", () -> {
            due("at once", 3, () -> automaton("0a1,!1", "bcb").oneWayRest());
            due("later", 2, () -> automaton("0a1,!1", "bab").oneWayRest());
            due("without a jump", 1, () -> automaton("0a1,!1", "bab").oneWayJumps());
            due("it is not accepted", false, () -> automaton("0a1,!1", "bab").accepts(2));
        });
        book.says(D, "The word is accepted if all letters are read and the state is final then.", () -> {
            due("both", true, () -> automaton("0a1,1b2,!2", "ba").accepts(2));
            due("all are read", false, () -> automaton("0a1,1b2,!1", "ba").accepts(2));
            due("the state is final", false, () -> automaton("0a1,1b2,!2", "bba").accepts(2));
            due("the empty word", true, () -> automaton("!0").accepts(2));
            due("the empty word, not final", false, () -> automaton("!1").accepts(2));
        });
    }

    private static void readingOrders(Book book) {
        book.says(D, "A reading order of the current word is an order of all its positions such that the word of the letters"
            + " in this order is accepted in order.", () -> {
            due("all positions, each once", "1032", () -> orderOf(automaton(PAIRS, "baba")));
            due("the letters in this order", "aabb", () -> {
                JumpingAutomata x = automaton("0a1,1a2,2b3,3b4,!4", "baba");
                StringBuilder letters = new StringBuilder();
                for (int i = 0; i < 4; i++) {
                    letters.append((char) ('a' + x.letterAt(x.orderPosition(i))));
                }
                return letters.toString();
            });
            due("none", ELEMENT, () -> automaton(PAIRS, "a").orderCost());
        });
        book.says(D, "Its cost is the first position plus the sum of the distances of each two positions that follow one"
            + " another in it, where the distance is the absolute difference.", () -> {
            due("the first position, then backwards", 4, () -> automaton("0a1,1b2,2b3,!3", "bba").orderCost());
            due("forwards", 2, () -> automaton("0a1,1b2,2b3,!3", "abb").orderCost());
            due("backwards and forwards", 4, () -> automaton("0a1,1b2,2c3,!3", "bac").orderCost());
            due("one letter", 0, () -> automaton("0a1,!1", "a").orderCost());
        });
        book.says(D, "The best reading order is one with the least cost; of several it is the lexicographically first one as"
            + " a sequence of positions.", () -> {
            JumpingAutomata x = automaton(PAIRS, "bbaa");
            due("2130 and 3120 cost the same", 8, () -> x.orderCost());
            due("the first of them", "2130", () -> orderOf(x));
            due("the least cost, not the first order", "210", () -> orderOf(automaton("0a1,1b2,2b3,!3", "bba")));
        });
    }

    private static void minimals(Book book) {
        book.says(D, "Counts are reached if they are the counts of a word that is accepted in order.", () -> {
            due("abc", true, () -> automaton("0b1,1a2,2c3,!3").reaches(1, 1, 1));
            due("abcc", false, () -> automaton("0b1,1a2,2c3,!3").reaches(1, 1, 2));
            due("the empty word", true, () -> automaton("!0").reaches(0, 0, 0));
        });
        book.says(D, "They are minimal if they are reached, and no other reached counts are less than or equal to them in all"
            + " three numbers.", () -> {
            due("greater in one number alone", "1", () -> minimalsOf(automaton("0c1,1a2,!1,!2")));
            due("greater in one and less in another", "2 101", () -> minimalsOf(automaton("0c1,1a2,1c2,!2")));
            due("the same counts by two words", "110", () -> minimalsOf(automaton("0a1,1b3,0b2,2a3,!3")));
            due("the empty word is below all", "0", () -> minimalsOf(automaton("0a1,!0,!1")));
        });
        book.says(D, "The minimal counts are numbered from 0 in the lexicographic order of their three numbers.", () -> {
            JumpingAutomata x = automaton("0a1,0b2,2b1,0c3,3c4,4c1,!1");
            due("ccc, bb, a", "3 20 100", () -> minimalsOf(x));
            due("number 0", 3, () -> x.minimal(0));
            due("number 3", INDEX, () -> x.minimal(3));
        });
    }

    private static void cycles(Book book) {
        book.says(D, "A simple cycle is a sequence of transitions that leads from a state back to it and that meets no other"
            + " state twice and this state only at its beginning and its end; all its states can be reached from the"
            + " initial state, and a final state can be reached from them.", () -> {
            due("a loop", "100", () -> cyclesOf(automaton("0a0,!0")));
            due("through all states", "311", () -> cyclesOf(automaton("0a1,1b2,2a3,3c4,4a0,!0")));
            due("not an eight", "20 200", () -> cyclesOf(automaton("0a1,1a0,1b2,2b1,!0")));
            due("not twice around", "110", () -> cyclesOf(automaton(PAIRS)));
            due("not if it is not reached", "", () -> cyclesOf(automaton("1a1,1b0,!0")));
            due("not if nothing final follows", "", () -> cyclesOf(automaton("0b1,1a1,!0")));
            due("a loop behind the initial state", "1", () -> cyclesOf(automaton("0b4,4c4,!4")));
            due("a loop at the initial state, not final", "1", () -> cyclesOf(automaton("0c0,0a1,!1")));
        });
        book.says(D, "The cycle counts are the different counts of the letters of simple cycles; they are numbered from 0 in"
            + " the lexicographic order of their three numbers.", () -> {
            JumpingAutomata x = automaton("0a1,0b1,1a0,1b0,0c0,1c1,!0");
            due("four cycles and two loops", "1 20 110 200", () -> cyclesOf(x));
            due("number 0", 1, () -> x.cycle(0));
            due("number 4", INDEX, () -> x.cycle(4));
        });
    }

    private static void sets(Book book) {
        book.says(D, "There are two counting sets, 0 and 1.", () -> {
            JumpingAutomata x = filled(0, "100");
            fill(x, 1, "010");
            due("set 0", 100, () -> x.firstExtra(0, 6));
            due("set 1", 10, () -> x.firstExtra(1, 6));
            due("set -1", INDEX, () -> x.clearSet(-1));
            due("set 2", INDEX, () -> x.clearSet(2));
        });
        book.says(D, "A counting set consists of at most 4 linear sets, numbered from 0 in the order in which they were"
            + " added; at first it has none.", () -> {
            due("at first", 0, () -> none().clearSet(0) + none().clearSet(1));
            JumpingAutomata x = filled(0, "600 060 006");
            due("the 4th", 3, () -> x.addLinearSet(0, 0, 0, 0));
            due("the 5th", STATE, () -> x.addLinearSet(0, 0, 0, 0));
            x.addPeriod(0, 2, 1, 0, 0);
            due("number 2 is the third", true, () -> x.contains(0, 1, 0, 6));
            due("number 1 is another one", false, () -> x.contains(0, 1, 6, 0));
            fullSets();
        });
        book.says(D, "A counting set contains the counts that at least one of its linear sets contains.", () -> {
            JumpingAutomata x = filled(1, "100 010+010 001");
            due("the first", true, () -> x.contains(1, 1, 0, 0));
            due("the second", true, () -> x.contains(1, 0, 3, 0));
            due("the third", true, () -> x.contains(1, 0, 0, 1));
            due("none", false, () -> x.contains(1, 1, 1, 0));
            due("no linear set", false, () -> x.contains(0, 0, 0, 0));
        });
    }

    /** Both sets with all linear sets and periods that they can have keep each of them. */
    private static void fullSets() {
        String[] linears = {"120+301+032+113 011+500+050+005 203+410+041+104 340+222+013+631",
            "001+240+024+402 600+011+101+110 033+330+303+111 555+200+020+002"};
        JumpingAutomata x = none();
        for (int set = 0; set < 2; set++) {
            for (String linear : linears[set].split(" ")) {
                x.addLinearSet(set, linear.charAt(0) - '0', linear.charAt(1) - '0', linear.charAt(2) - '0');
            }
        }
        for (int place = 4; place < 16; place += 4) {
            for (int set = 1; set >= 0; set--) {
                for (int linear = 3; linear >= 0; linear--) {
                    String period = linears[set].split(" ")[linear].substring(place);
                    x.addPeriod(set, linear, period.charAt(0) - '0', period.charAt(1) - '0', period.charAt(2) - '0');
                }
            }
        }
        for (int set = 0; set < 2; set++) {
            int s = set;
            for (int bound = 0; bound <= 6; bound++) {
                int b = bound;
                due("a full set", elementsOf(linears[set], b), () -> x.elements(s, b));
            }
            due("it is full", STATE, () -> x.addLinearSet(s, 0, 0, 0));
            due("and its last linear set", STATE, () -> x.addPeriod(s, 3, 0, 0, 1));
        }
    }

    /** The number of elements by trying all numbers of copies that stay within the bound. */
    private static int elementsOf(String linears, int bound) {
        Set<String> found = new HashSet<>();
        for (String linear : linears.split(" ")) {
            for (int copies = 0; copies < 343; copies++) {
                int[] sum = new int[3];
                for (int i = 0; i < 3; i++) {
                    sum[i] = linear.charAt(i) - '0' + copies % 7 * (linear.charAt(4 + i) - '0')
                        + copies / 7 % 7 * (linear.charAt(8 + i) - '0') + copies / 49 * (linear.charAt(12 + i) - '0');
                }
                if (sum[0] <= bound && sum[1] <= bound && sum[2] <= bound) {
                    found.add(sum[0] + "," + sum[1] + "," + sum[2]);
                }
            }
        }
        return found.size();
    }

    private static void linearSets(Book book) {
        book.says(D, "A linear set has base counts and at most 3 periods; the base and the periods are three numbers from 0"
            + " to 9, and a period is not zero in all of them.", () -> {
            JumpingAutomata x = filled(0, "000 999");
            due("a base of zeros", true, () -> x.contains(0, 0, 0, 0));
            due("a base of nines", true, () -> x.contains(0, 9, 9, 9));
            due("a base of 10", ARGUMENT, () -> x.addLinearSet(0, 0, 10, 0));
            due("a base of -1", ARGUMENT, () -> x.addLinearSet(0, 0, 0, -1));
            due("a period of zeros", ARGUMENT, () -> x.addPeriod(0, 0, 0, 0, 0));
            due("a period of 10", ARGUMENT, () -> x.addPeriod(0, 0, 10, 0, 0));
            due("a period of -1", ARGUMENT, () -> x.addPeriod(0, 0, 0, -1, 1));
            due("the 1st period", 1, () -> x.addPeriod(0, 0, 9, 9, 9));
            due("the 2nd period", 2, () -> x.addPeriod(0, 0, 9, 9, 9));
            due("the 3rd period", 3, () -> x.addPeriod(0, 0, 0, 0, 1));
            due("the 4th period", STATE, () -> x.addPeriod(0, 0, 0, 1, 0));
        });
        book.says(D, "A linear set contains the counts that are the base plus a sum of any numbers of copies of its periods.",
            () -> {
                JumpingAutomata x = filled(0, "012+300+130+003");
                due("no copies", true, () -> x.contains(0, 0, 1, 2));
                due("three copies", true, () -> x.contains(0, 9, 1, 2));
                due("one copy of each", true, () -> x.contains(0, 4, 4, 5));
                due("numbers that differ", true, () -> x.contains(0, 8, 7, 8));
                due("part of a copy", false, () -> x.contains(0, 2, 1, 2));
                due("less than the base", false, () -> x.contains(0, 0, 0, 2));
                due("a period twice does no harm", 2, () -> filled(0, "000+555+555").elements(0, 6));
            });
    }

    private static void texts(Book book) {
        book.says(D, "There is a text of at most 40 characters, which is empty at first.", () -> {
            JumpingAutomata x = none();
            for (int i = 1; i <= 40; i++) {
                int length = i;
                due("room", length, () -> x.appendCharacter('!'));
            }
            due("the 41st", STATE, () -> x.appendCharacter('!'));
        });
        book.says(D, "An automaton text consists of one or more items with a \",\" between two of them.", () -> {
            due("one item", 1, () -> typed("0a1").addText());
            due("two items", 2, () -> typed("0a1,1a0").addText());
            due("ten items", 10, () -> typed("0a0,0a1,0a2,0a3,0a4,0b0,0b1,0b2,0b3,0b4").addText());
            due("thirteen items of 38 characters", 0, () -> typed("!0,!1,!2,!3,!4,!0,!1,!2,!3,!4,!0,!1,!2").addText());
            due("no item", ARGUMENT, () -> typed("").addText());
            due("nothing between two", ARGUMENT, () -> typed("0a11a0").addText());
            due("nothing before it", ARGUMENT, () -> typed(",0a1").addText());
            due("nothing behind it", ARGUMENT, () -> typed("0a1,").addText());
            due("two of them", ARGUMENT, () -> typed("0a1,,1a0").addText());
        });
        book.says(D, "An item is a digit from 0 to 4, a letter from a to c, and a digit from 0 to 4, for a transition, or a"
            + " \"!\" and a digit from 0 to 4, for a final state.", () -> {
            due("the least", "0", () -> listOf(automaton("0a0")));
            due("the greatest", "424", () -> listOf(automaton("4c4")));
            due("the least final state", "0", () -> finalsOf(automaton("!0")));
            due("the greatest final state", "4", () -> finalsOf(automaton("!4")));
            for (String text : new String[] {"5a0", "/a0", "0d0", "0`0", "0A0", "0a5", "0a/", "!5", "!/", "!a", "a00", "0!0"}) {
                due(text, ARGUMENT, () -> typed(text).addText());
            }
        });
        book.says(D, "The fault position of a text is the index of the first character that cannot continue an automaton"
            + " text; it is the length of the text if the text ends too early.", () -> {
            String[] texts = {"5a0", "0d0", "0a5", "0a0;", "!5", "!0!", "0a0,~", "~~", "", "0", "0a", "0a0,", "!", "!0,"};
            int[] faults = {0, 1, 2, 3, 1, 2, 4, 0, 0, 1, 2, 4, 1, 3};
            for (int i = 0; i < texts.length; i++) {
                JumpingAutomata x = typed(texts[i]);
                Check.answerOf(x::addText);
                due(texts[i], faults[i], () -> x.faultPosition());
            }
            String ten = "0a0,0a1,0a2,0a3,0a4,0b0,0b1,0b2,0b3,0b4";
            JumpingAutomata y = typed(ten + ",");
            Check.answerOf(y::addText);
            due("a full text that ends too early", 40, () -> y.faultPosition());
            JumpingAutomata z = typed(ten + "0");
            Check.answerOf(z::addText);
            due("the last character of a full text", 39, () -> z.faultPosition());
        });
    }
}
