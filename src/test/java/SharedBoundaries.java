/** What the description says of all calls: the changes, refused calls, and the order of exceptions. */
final class SharedBoundaries extends Lab {
    private static final int D = Book.DESCRIPTION;

    private SharedBoundaries() {
    }

    static void tell(Book book) {
        book.cannotShow(D, "A laboratory for jumping finite automata: one automaton that is read in three modes, in order,"
            + " jumping, and one-way jumping; accepted arrangements, cheapest reading orders, minimal counts and simple"
            + " cycles, counting sets that are unions of linear sets, comparisons, and numbers of accepted words.");
        book.cannotShow(D, "The class is not thread-safe.");
        book.says(D, "An object is used for at most 512 calls after it has been made; what later calls answer is free.",
            () -> {
                lastCalls();
                usedObjects();
            });
        book.says(D, "A call that throws an exception leaves the state unchanged, except that the text and its fault position"
            + " are treated as described.", SharedBoundaries::refusedCalls);
        book.says(D, "If a method can throw several exceptions, they are checked in the order in which they are listed.",
            () -> {
                orderOfBuilding();
                orderOfReading();
                orderOfSets();
            });
        book.says(D, "The changes are the successful calls of addText, addTransition, removeTransition, setFinal,"
            + " clearAutomaton, addLinearSet, addPeriod, clearSet and restore, also if nothing changes by them.", () -> {
            changes();
            noChanges();
        });
        book.says(D, "At most 8 of them can be taken back by undo; older ones are forgotten.",
            SharedBoundaries::forgotten);
        book.says(D, "The current word and the text are not affected by undo, save and restore.",
            SharedBoundaries::notAffected);
    }

    private static void lastCalls() {
        JumpingAutomata x = none();
        for (int i = 0; i < 510; i++) {
            x.addTransition(i % 3, i % 2, i % 5 / 4);
        }
        due("the 511th call", false, () -> x.setFinal(4, true));
        due("the 512th call", 7, () -> x.undo());
    }

    /** What calls before have left inside an object does not show: it answers as a new one. */
    private static void usedObjects() {
        String[] texts = {PAIRS, "0a1,1b2,2c0,!0", PAIRS, "0a1,!1", ALL_WORDS, BRANCHING, "!0", PAIRS, "0c4,4b0,4a3,!3"};
        String[] words = {"bbbbaaaa", "cabbca", "bac", "a", "cab", "aab", "", "ab", "bcac"};
        JumpingAutomata used = none();
        for (int i = 0; i < texts.length; i++) {
            JumpingAutomata fresh = automaton(texts[i], words[i]);
            used.clearAutomaton();
            read(used, texts[i]);
            word(used, words[i]);
            String due = answersOf(fresh);
            due("used, with " + texts[i], due, () -> answersOf(used));
            due("the first again", due, () -> answersOf(fresh));
        }
    }

    private static String answersOf(JumpingAutomata x) {
        StringBuilder told = new StringBuilder();
        Check.Call[] calls = {() -> x.accepts(0), () -> x.accepts(1), () -> x.accepts(2), x::runCount,
            x::acceptedArrangements, x::oneWayJumps, x::oneWayRest, x::orderCost, () -> orderOf(x),
            () -> x.reaches(1, 1, 1), x::minimalCount, () -> x.minimal(0), x::averageMinimum, x::cycleCount,
            () -> x.cycle(0), () -> x.reachedCounts(4), () -> x.acceptedWords(0, 4), () -> x.acceptedWords(1, 4),
            () -> x.acceptedWords(2, 4), () -> x.isClosed(5), x::usefulStates, () -> x.takeArrangement(1000)};
        for (Check.Call call : calls) {
            told.append(Check.answerOf(call)).append(' ');
        }
        return told.toString();
    }

    /** A refused call of each method that can refuse one, on an object that has much to lose. */
    private static void refusedCalls() {
        Act[] index = {x -> x.addTransition(5, 0, 0), x -> remove(x, 0, 3, 0), x -> x.setFinal(-1, true),
            x -> x.transition(4), x -> x.letterAt(3), x -> x.orderPosition(3), x -> x.minimal(1), x -> x.cycle(1),
            x -> x.addLinearSet(2, 0, 0, 0), x -> x.addPeriod(0, 1, 1, 0, 0), x -> x.clearSet(2),
            x -> x.contains(2, 0, 0, 0), x -> x.elements(2, 0), x -> x.firstMissing(2, 0), x -> x.firstExtra(2, 0),
            x -> x.hasCyclePeriods(1, 1)};
        for (Act act : index) {
            Portrait.refused(INDEX, act);
        }
        Act[] argument = {x -> x.appendCharacter(32), x -> x.appendLetter(3), x -> x.accepts(3),
            x -> x.takeArrangement(-1), x -> x.reaches(0, 0, 10), x -> x.addLinearSet(0, 0, 0, 10),
            x -> x.addPeriod(0, 0, 0, 0, 0), x -> x.contains(0, 0, 0, 10), x -> x.elements(0, 7),
            x -> x.reachedCounts(7), x -> x.firstMissing(0, 7), x -> x.firstExtra(0, 7), x -> x.acceptedWords(0, 8),
            x -> x.isClosed(8), x -> x.takeOpenWord(8), x -> x.density(0, 8)};
        for (Act act : argument) {
            Portrait.refused(ARGUMENT, act);
        }
        Act[] element = {x -> remove(x, 1, 0, 1), x -> x.takeArrangement(0), x -> x.orderCost(),
            x -> x.orderPosition(0), x -> x.firstMissing(0, 0), x -> x.firstExtra(1, 2), x -> x.takeOpenWord(1)};
        for (Act act : element) {
            Portrait.refused(ELEMENT, act);
        }
        Act[] unsupported = {x -> x.accepts(2), x -> x.oneWayJumps(), x -> x.oneWayRest(), x -> x.acceptedWords(2, 1),
            x -> x.density(2, 1)};
        for (Act act : unsupported) {
            Portrait.refused(UNSUPPORTED, x -> x.addTransition(0, 0, 0), act);
        }
        Portrait.refused(ARITHMETIC, x -> x.clearAutomaton(), x -> x.averageMinimum());
    }

    private static void orderOfBuilding() {
        JumpingAutomata text = automaton(FIFTEEN);
        type(text, "0a0,0a0,0a0,0a0,0a0,0a0,0a0,0a0,0a0,4c4,");
        due("appendCharacter: 127, and full", ARGUMENT, () -> text.appendCharacter(127));
        due("appendCharacter: full", STATE, () -> text.appendCharacter(126));
        due("addText: a fault, and sixteen transitions", ARGUMENT, () -> text.addText());
        due("the fault", 40, () -> text.faultPosition());
        type(text, "4c4,4c4");
        due("addText: sixteen transitions", STATE, () -> text.addText());
        due("addTransition: state 5, and full", INDEX, () -> text.addTransition(4, 2, 5));
        due("addTransition: full", STATE, () -> text.addTransition(4, 2, 4));
        due("removeTransition: letter 3, and no such one", INDEX, () -> remove(text, 4, 3, 4));
        due("removeTransition: no such one", ELEMENT, () -> remove(text, 4, 2, 4));
        word(text, "aaaaaaaa");
        due("appendLetter: 3, and full", ARGUMENT, () -> text.appendLetter(3));
        due("appendLetter: full", STATE, () -> text.appendLetter(2));
    }

    private static void orderOfReading() {
        JumpingAutomata x = automaton(BRANCHING, "c");
        due("accepts: mode 3, and branching", ARGUMENT, () -> x.accepts(3));
        due("accepts: branching", UNSUPPORTED, () -> x.accepts(2));
        due("takeArrangement: -1, and none", ARGUMENT, () -> x.takeArrangement(-1));
        due("takeArrangement: none", ELEMENT, () -> x.takeArrangement(0));
        due("orderPosition: 1, and none", INDEX, () -> x.orderPosition(1));
        due("orderPosition: none", ELEMENT, () -> x.orderPosition(0));
        due("acceptedWords: length 8, and branching", ARGUMENT, () -> x.acceptedWords(2, 8));
        due("acceptedWords: length -1, and branching", ARGUMENT, () -> x.acceptedWords(2, -1));
        due("acceptedWords: mode 3, and branching", ARGUMENT, () -> x.acceptedWords(3, 7));
        due("acceptedWords: branching", UNSUPPORTED, () -> x.acceptedWords(2, 7));
        due("density: length 8, and branching", ARGUMENT, () -> x.density(2, 8));
        due("density: length -1, and branching", ARGUMENT, () -> x.density(2, -1));
        due("density: mode 3, and branching", ARGUMENT, () -> x.density(3, 7));
        due("density: branching", UNSUPPORTED, () -> x.density(2, 7));
        due("takeOpenWord: length -1, and none", ARGUMENT, () -> x.takeOpenWord(-1));
        due("takeOpenWord: length 8, and some", ARGUMENT, () -> x.takeOpenWord(8));
        due("takeOpenWord: none", ELEMENT, () -> x.takeOpenWord(0));
        due("the word stays", "c", () -> wordOf(x));
    }

    private static void orderOfSets() {
        JumpingAutomata x = filled(1, "000+001+010+100 000 000 000");
        due("addLinearSet: set 2, and 10", INDEX, () -> x.addLinearSet(2, 10, 0, 0));
        due("addLinearSet: set -1, and -1", INDEX, () -> x.addLinearSet(-1, 0, 0, -1));
        due("addLinearSet: 10, and full", ARGUMENT, () -> x.addLinearSet(1, 0, 10, 0));
        due("addLinearSet: full", STATE, () -> x.addLinearSet(1, 0, 9, 0));
        due("addPeriod: set 2, and zeros", INDEX, () -> x.addPeriod(2, 0, 0, 0, 0));
        due("addPeriod: linear set 4, and 10", INDEX, () -> x.addPeriod(1, 4, 10, 0, 0));
        due("addPeriod: zeros, and full", ARGUMENT, () -> x.addPeriod(1, 0, 0, 0, 0));
        due("addPeriod: 10, and full", ARGUMENT, () -> x.addPeriod(1, 0, 1, 1, 10));
        due("addPeriod: full", STATE, () -> x.addPeriod(1, 0, 1, 1, 9));
        due("contains: set 2, and 10", INDEX, () -> x.contains(2, 0, 0, 10));
        due("contains: 10", ARGUMENT, () -> x.contains(1, 0, 0, 10));
        due("elements: set -1, and bound 7", INDEX, () -> x.elements(-1, 7));
        due("elements: bound 7", ARGUMENT, () -> x.elements(1, 7));
        due("firstMissing: set 2, and bound -1", INDEX, () -> x.firstMissing(2, -1));
        due("firstMissing: set 2, and none", INDEX, () -> x.firstMissing(2, 6));
        due("firstMissing: bound -1, and none", ARGUMENT, () -> x.firstMissing(1, -1));
        due("firstMissing: none", ELEMENT, () -> x.firstMissing(1, 6));
        due("firstExtra: set -1, and bound 7", INDEX, () -> x.firstExtra(-1, 7));
        due("firstExtra: set -1, and none", INDEX, () -> x.firstExtra(-1, 6));
        due("firstExtra: bound 7, and none", ARGUMENT, () -> x.firstExtra(0, 7));
        due("firstExtra: none", ELEMENT, () -> x.firstExtra(0, 6));
        due("clearSet has them all still", 4, () -> x.clearSet(1));
    }

    /** An object that can take back just one change answers 1 after another one. */
    private static void isChange(String name, Act act) {
        JumpingAutomata x = automaton("0a1,!1");
        x.addLinearSet(0, 0, 0, 0);
        x.save();
        x.undo();
        x.addLinearSet(0, 0, 0, 0);
        due(name + " is done", true, () -> act.on(x) != null);
        due(name + " is a change", 2, () -> x.undo());
    }

    private static void changes() {
        isChange("addText", x -> {
            type(x, "2b2");
            return x.addText();
        });
        isChange("addText without effect", x -> {
            type(x, "0a1,!1");
            return x.addText();
        });
        isChange("addTransition", x -> x.addTransition(1, 1, 1));
        isChange("addTransition without effect", x -> x.addTransition(0, 0, 1));
        isChange("removeTransition", x -> remove(x, 0, 0, 1));
        isChange("setFinal", x -> x.setFinal(2, true));
        isChange("setFinal without effect", x -> x.setFinal(1, true));
        isChange("setFinal off without effect", x -> x.setFinal(0, false));
        isChange("clearAutomaton", x -> {
            x.clearAutomaton();
            return "void";
        });
        isChange("addLinearSet", x -> x.addLinearSet(0, 0, 0, 0));
        isChange("addPeriod", x -> x.addPeriod(0, 0, 0, 0, 1));
        isChange("clearSet", x -> x.clearSet(0));
        isChange("clearSet without effect", x -> x.clearSet(1));
        isChange("restore without effect", x -> restore(x));
        JumpingAutomata x = none();
        x.clearAutomaton();
        due("clearAutomaton without effect is a change", 0, () -> x.undo());
        x.addTransition(0, 0, 0);
        x.save();
        x.clearAutomaton();
        x.restore();
        due("restore is a change", 2, () -> x.undo());
        due("it is taken back", 0, () -> x.transitionCount());
    }

    private static void noChanges() {
        Act[] acts = {x -> x.appendCharacter('0'), x -> x.faultPosition(), x -> Check.answerOf(x::addText),
            x -> x.appendLetter(0), x -> x.takeOpenWord(7), x -> x.takeArrangement(0), x -> x.clearWord(),
            x -> x.orderCost(), x -> x.runCount(), x -> x.minimalCount(), x -> x.cycleCount(), x -> x.isClosed(7),
            x -> Check.answerOf(() -> x.addTransition(0, 3, 0)), x -> Check.answerOf(() -> remove(x, 4, 2, 4)),
            x -> Check.answerOf(() -> x.setFinal(5, true)), x -> Check.answerOf(() -> x.addLinearSet(0, 10, 0, 0)),
            x -> Check.answerOf(() -> x.addPeriod(0, 0, 1, 0, 0)), x -> Check.answerOf(() -> x.clearSet(2)),
            x -> Check.answerOf(() -> restore(x))};
        JumpingAutomata x = automaton(PAIRS);
        for (Act act : acts) {
            act.on(x);
        }
        x.save();
        due("only the text of the automaton is a change", 0, () -> x.undo());
        due("no other", STATE, () -> x.undo());
        due("undo is no change", 0, () -> x.transitionCount());
    }

    private static void forgotten() {
        for (int times = 7; times <= 15; times++) {
            JumpingAutomata x = none();
            for (int i = 0; i < times; i++) {
                x.addTransition(i % 5, i / 5, 0);
            }
            for (int left = Math.min(times, 8) - 1; left >= 0; left--) {
                int still = left;
                due("after " + times + " changes", still, () -> x.undo());
            }
            due("one more", STATE, () -> x.undo());
            due("those that are forgotten are not taken back", Math.max(times - 8, 0), () -> x.transitionCount());
        }
        JumpingAutomata y = none();
        for (int round = 0; round < 5; round++) {
            for (int i = 0; i < 3; i++) {
                y.setFinal(i, true);
            }
            y.undo();
            y.undo();
        }
        due("changes and undo in turn leave one a round", 4, () -> y.undo());
    }

    private static void notAffected() {
        JumpingAutomata x = automaton("0a1,!1", "cab");
        type(x, "0d");
        Check.answerOf(x::addText);
        type(x, "3b");
        x.save();
        due("save: the word", "cab", () -> wordOf(x));
        due("save: the text", 3, () -> x.appendCharacter('3'));
        x.clearAutomaton();
        word(x, "bb");
        x.restore();
        due("restore: the word", "bb", () -> wordOf(x));
        due("restore: the text", 4, () -> x.appendCharacter(','));
        word(x, "ccc");
        x.undo();
        due("undo: the word", "ccc", () -> wordOf(x));
        due("undo: the text", 5, () -> x.appendCharacter('!'));
        due("the fault position stays too", 1, () -> x.faultPosition());
        type(x, "2");
        due("the text is read as it was written", 1, () -> x.addText());
        x.undo();
        due("undo of addText does not bring it back", 1, () -> x.appendCharacter('!'));
    }
}
