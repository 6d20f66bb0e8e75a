/** Promises 5 to 12: the automaton. */
final class AutomatonBoundaries extends Lab {
    private static final int[] NO_STATE = {-1, 5, LEAST, MOST};
    private static final int[] NO_LETTER = {-1, 3, LEAST, MOST};

    private AutomatonBoundaries() {
    }

    static void tell(Book book) {
        addTransition(book);
        addTransitionRefused(book);
        removeTransition(book);
        removeTransitionRefused(book);
        setFinal(book);
        clearAutomaton(book);
        transitions(book);
        isDeterministic(book);
        usefulStates(book);
    }

    private static void addTransition(Book book) {
        book.says(5, "Adds a transition, unless it exists already.", () -> {
            JumpingAutomata x = none();
            x.addTransition(4, 2, 4);
            due("one", "424", () -> listOf(x));
            x.addTransition(4, 2, 4);
            due("still one", "424", () -> listOf(x));
            word(x, "c");
            x.setFinal(0, true);
            x.addTransition(0, 2, 0);
            due("it can be used", true, () -> x.accepts(0));
        });
        book.says(5, "- `from`: the source, 0 to 4", () -> {
            allows(v -> none().addTransition(v, 0, 0), v -> true, 0, 1, 2, 3, 4);
            refuses(INDEX, v -> none().addTransition(v, 0, 0), NO_STATE);
        });
        book.says(5, "- `letter`: the letter, 0 to 2", () -> {
            allows(v -> none().addTransition(0, v, 0), v -> true, 0, 1, 2);
            refuses(INDEX, v -> none().addTransition(0, v, 0), NO_LETTER);
        });
        book.says(5, "- `to`: the target, 0 to 4", () -> {
            allows(v -> none().addTransition(0, 0, v), v -> true, 0, 1, 2, 3, 4);
            refuses(INDEX, v -> none().addTransition(0, 0, v), NO_STATE);
        });
        book.says(5, "Returns whether it was added.", () -> {
            JumpingAutomata x = none();
            due("a new one", true, () -> x.addTransition(1, 1, 1));
            due("the same one", false, () -> x.addTransition(1, 1, 1));
            due("another target", true, () -> x.addTransition(1, 1, 2));
            due("another letter", true, () -> x.addTransition(1, 2, 1));
            due("another source", true, () -> x.addTransition(2, 1, 1));
            remove(x, 1, 1, 1);
            due("a removed one", true, () -> x.addTransition(1, 1, 1));
        });
    }

    private static void addTransitionRefused(Book book) {
        book.says(5, "Throws `IndexOutOfBoundsException` if there is no such state or letter", () -> {
            for (int wrong : NO_STATE) {
                Portrait.refused(INDEX, x -> x.addTransition(wrong, 1, 1));
                Portrait.refused(INDEX, x -> x.addTransition(1, 1, wrong));
            }
            for (int wrong : NO_LETTER) {
                Portrait.refused(INDEX, x -> x.addTransition(1, wrong, 1));
            }
        });
        book.says(5, "Throws `IllegalStateException` if it does not exist, and there are 15 transitions", () -> {
            JumpingAutomata x = automaton(FIFTEEN);
            remove(x, 0, 0, 0);
            due("the 15th", true, () -> x.addTransition(4, 2, 4));
            due("the 16th", STATE, () -> x.addTransition(0, 0, 0));
            due("one that exists", false, () -> x.addTransition(4, 2, 4));
            due("fifteen stay", 15, () -> x.transitionCount());
            Portrait.refused(STATE, y -> {
                for (int i = 0; i < 11; i++) {
                    y.addTransition(4, i % 3, i / 3);
                }
            }, y -> y.addTransition(3, 0, 3));
        });
    }

    private static void removeTransition(Book book) {
        book.says(6, "Removes a transition.", () -> {
            JumpingAutomata x = automaton("0a0,0a1,0b0,1a0");
            due("one", "void", () -> remove(x, 0, 0, 0));
            due("the others stay", "1 10 100", () -> listOf(x));
            due("the next", "void", () -> remove(x, 0, 1, 0));
            due("and the next", "void", () -> remove(x, 1, 0, 0));
            due("the last", "void", () -> remove(x, 0, 0, 1));
            due("none is left", 0, () -> x.transitionCount());
            JumpingAutomata y = automaton("0a0,!0", "a");
            remove(y, 0, 0, 0);
            due("it cannot be used", false, () -> y.accepts(0));
        });
        book.says(6, "- `from`: the source, 0 to 4", () -> {
            allows(v -> remove(automaton(v + "a0"), v, 0, 0), v -> "void", 0, 1, 2, 3, 4);
            refuses(INDEX, v -> remove(automaton(FIFTEEN), v, 0, 0), NO_STATE);
        });
        book.says(6, "- `letter`: the letter, 0 to 2", () -> {
            allows(v -> remove(automaton("0a0,0b0,0c0"), 0, v, 0), v -> "void", 0, 1, 2);
            refuses(INDEX, v -> remove(automaton(ALL_WORDS), 0, v, 0), NO_LETTER);
        });
        book.says(6, "- `to`: the target, 0 to 4", () -> {
            allows(v -> remove(automaton(FIFTEEN), 0, 0, v), v -> "void", 0, 1, 2, 3, 4);
            refuses(INDEX, v -> remove(automaton(FIFTEEN), 0, 0, v), NO_STATE);
        });
    }

    private static void removeTransitionRefused(Book book) {
        book.says(6, "Throws `IndexOutOfBoundsException` if there is no such state or letter", () -> {
            for (int wrong : NO_STATE) {
                Portrait.refused(INDEX, x -> remove(x, wrong, 0, 1));
                Portrait.refused(INDEX, x -> remove(x, 0, 0, wrong));
            }
            for (int wrong : NO_LETTER) {
                Portrait.refused(INDEX, x -> remove(x, 0, wrong, 1));
            }
        });
        book.says(6, "Throws `NoSuchElementException` if the transition does not exist", () -> {
            due("no transition at all", ELEMENT, () -> remove(none(), 0, 0, 0));
            JumpingAutomata x = automaton("1b1");
            due("another source", ELEMENT, () -> remove(x, 2, 1, 1));
            due("another letter", ELEMENT, () -> remove(x, 1, 0, 1));
            due("another target", ELEMENT, () -> remove(x, 1, 1, 2));
            due("it", "void", () -> remove(x, 1, 1, 1));
            due("it again", ELEMENT, () -> remove(x, 1, 1, 1));
            Portrait.refused(ELEMENT, y -> remove(y, 1, 0, 1));
        });
    }

    private static void setFinal(Book book) {
        book.says(7, "Makes a state final or not.", () -> {
            for (int state = 0; state < 5; state++) {
                int s = state;
                JumpingAutomata x = automaton("!0,!1,!2,!3,!4");
                x.setFinal(s, false);
                due("all but " + s, "01234".replace("" + s, ""), () -> finalsOf(x));
                x.setFinal(s, true);
                due("only " + s, "" + s, () -> finalsOf(x));
            }
        });
        book.says(7, "- `state`: the state, 0 to 4", () -> {
            allows(v -> none().setFinal(v, true), v -> false, 0, 1, 2, 3, 4);
            refuses(INDEX, v -> none().setFinal(v, true), NO_STATE);
        });
        book.says(7, "- `on`: whether it is final from now on", () -> {
            JumpingAutomata x = none();
            x.setFinal(0, true);
            due("on", true, () -> x.accepts(0));
            x.setFinal(0, true);
            due("on again", true, () -> x.accepts(0));
            x.setFinal(0, false);
            due("off", false, () -> x.accepts(0));
            x.setFinal(0, false);
            due("off again", false, () -> x.accepts(0));
        });
        book.says(7, "Returns whether it was final before.", () -> {
            JumpingAutomata x = none();
            due("at first", false, () -> x.setFinal(3, false));
            due("after off", false, () -> x.setFinal(3, true));
            due("after on", true, () -> x.setFinal(3, true));
            due("after on again", true, () -> x.setFinal(3, false));
            due("another state", false, () -> x.setFinal(4, false));
        });
        book.says(7, "Throws `IndexOutOfBoundsException` if there is no such state", () -> {
            for (int wrong : NO_STATE) {
                Portrait.refused(INDEX, x -> x.setFinal(wrong, true));
                Portrait.refused(INDEX, x -> x.setFinal(wrong, false));
            }
            Portrait.refused(INDEX, x -> x.setFinal(32, false));
        });
    }

    private static void clearAutomaton(Book book) {
        book.says(8, "Removes all transitions, and makes no state final.", () -> {
            JumpingAutomata x = automaton(FIFTEEN);
            read(x, "!0,!1,!2,!3,!4");
            fill(x, 0, "001");
            word(x, "ab");
            x.clearAutomaton();
            due("a full one", 0, () -> x.transitionCount());
            due("its final states", "", () -> finalsOf(x));
            due("the sets stay", 1, () -> x.elements(0, 1));
            due("the word stays", "ab", () -> wordOf(x));
            JumpingAutomata y = none();
            y.clearAutomaton();
            due("an empty one", 0, () -> y.transitionCount());
        });
    }

    private static void transitions(Book book) {
        book.says(9, "Returns the number of transitions.", () -> {
            JumpingAutomata x = automaton("0a0,0a0,!3");
            due("one", 1, () -> x.transitionCount());
            x.addTransition(0, 0, 0);
            due("a twin does not count", 1, () -> x.transitionCount());
            remove(x, 0, 0, 0);
            due("none", 0, () -> x.transitionCount());
        });
        book.says(9, "Returns 0 to 15.", () -> {
            due("none", 0, () -> none().transitionCount());
            due("full", 15, () -> automaton(FIFTEEN).transitionCount());
        });
        book.says(10, "Returns a transition by its place in the order of the transitions.", () -> {
            JumpingAutomata x = automaton("4c4,4c3,4a0,0c4,0a1,0a0");
            due("in order", "0 1 24 400 423 424", () -> listOf(x));
            remove(x, 0, 0, 0);
            due("places move", 1, () -> x.transition(0));
        });
        book.says(10, "- `index`: the index, from 0", () -> {
            JumpingAutomata x = automaton(FIFTEEN);
            allows(v -> x.transition(v), v -> v < 5 ? v : v < 10 ? 100 + v - 5 : 210 + v - 10, 0, 4, 5, 9, 10, 14);
            refuses(INDEX, v -> x.transition(v), -1, 15, LEAST, MOST);
        });
        book.says(10, "Returns 100 times the source plus 10 times the letter plus the target.", () -> {
            due("the least", 0, () -> automaton("0a0").transition(0));
            due("the source", 100, () -> automaton("1a0").transition(0));
            due("the letter", 10, () -> automaton("0b0").transition(0));
            due("the target", 1, () -> automaton("0a1").transition(0));
            due("the greatest", 424, () -> automaton("4c4").transition(0));
        });
        book.says(10, "Throws `IndexOutOfBoundsException` if there is no such transition", () -> {
            due("of none", INDEX, () -> none().transition(0));
            due("the last of one", 424, () -> automaton("4c4").transition(0));
            due("after the last of one", INDEX, () -> automaton("4c4").transition(1));
            for (int wrong : new int[] {-1, 4, 15, LEAST, MOST}) {
                Portrait.refused(INDEX, x -> x.transition(wrong));
            }
        });
    }

    private static void isDeterministic(Book book) {
        book.says(11, "Returns whether the automaton is deterministic.", () -> {
            due("without transitions", true, () -> none().isDeterministic());
            due("with a transition for each state and letter", true, () ->
                automaton("0a0,0b1,0c2,1a3,1b4,1c0,2a1,2b2,2c3 3a4,3b0,3c1,4a2,4b3,4c4").isDeterministic());
            due("with fifteen of three", false, () -> automaton(FIFTEEN).isDeterministic());
        });
        book.says(11, "Returns whether it is.", () -> {
            JumpingAutomata x = automaton("4c0");
            due("it is", true, () -> x.isDeterministic());
            x.addTransition(4, 2, 4);
            due("it is no longer", false, () -> x.isDeterministic());
            remove(x, 4, 2, 0);
            due("it is again", true, () -> x.isDeterministic());
        });
    }

    private static void usefulStates(Book book) {
        book.says(12, "Returns the states that can be reached from the initial state and from which a final state can"
            + " be reached; the initial state and final states are reached from themselves without transitions.", () -> {
            due("initial and final", 1, () -> automaton("!0").usefulStates());
            due("no final state", 0, () -> automaton("0a1,1b0").usefulStates());
            due("a final state that is not reached", 0, () -> automaton("!4,4a4").usefulStates());
            due("the initial state leads to it", 17, () -> automaton("0a4,!4").usefulStates());
            due("the longest way", 31, () -> automaton("0c3,3b1,1a4,4c2,!2").usefulStates());
            due("the longest way back", 31, () -> automaton("0c4,4b3,3a2,2c1,!1").usefulStates());
            due("a dead end", 3, () -> automaton("0a1,0b2,2a2,!1").usefulStates());
            due("a state before the initial one", 3, () -> automaton("0a1,2b0,!1").usefulStates());
            due("a final dead end behind a final state", 7, () -> automaton("0a1,1a2,!1,!2").usefulStates());
        });
        book.says(12, "Returns the set of states, bit k for state k.", () -> {
            due("none", 0, () -> none().usefulStates());
            for (int state = 1; state < 5; state++) {
                int s = state;
                due("state " + s, 1 | (1 << s), () -> automaton("0b" + s + ",!" + s).usefulStates());
            }
            due("all", 31, () -> automaton("0a1,0a2,0a3,0a4,!1,!2,!3,!4").usefulStates());
        });
    }
}
