/** Promises 44 to 46: undo, save and restore. */
final class ChangeBoundaries extends Lab {
    private ChangeBoundaries() {
    }

    static void tell(Book book) {
        undo(book);
        undoRefused(book);
        save(book);
        restoring(book);
    }

    private static JumpingAutomata changed(int times) {
        JumpingAutomata x = none();
        for (int i = 0; i < times; i++) {
            x.addTransition(i % 5, i / 5 % 3, 0);
        }
        return x;
    }

    private static void undo(Book book) {
        book.says(44, "Takes back the latest change that was not taken back.", () -> {
            JumpingAutomata x = automaton("0a1,!1");
            x.addTransition(2, 2, 2);
            x.setFinal(0, true);
            x.undo();
            due("the latest", false, () -> x.accepts(0));
            due("not the one before", 2, () -> x.transitionCount());
            x.undo();
            due("then the one before", 1, () -> x.transitionCount());
            x.addLinearSet(0, 1, 1, 1);
            x.undo();
            due("a change after undo", 0, () -> x.elements(0, 6));
            due("and nothing else", 1, () -> x.transitionCount());
            x.undo();
            due("then the first", 0, () -> x.transitionCount());
        });
        book.says(44, "Returns the number of changes that can still be taken back.", () -> {
            for (int times = 1; times <= 10; times++) {
                int left = Math.min(times, 8) - 1;
                JumpingAutomata x = changed(times);
                due("after " + times + " changes", left, () -> x.undo());
                if (left > 0) {
                    due("once more", left - 1, () -> x.undo());
                }
            }
            due("the only one", 0, () -> changed(1).undo());
            due("one of 30, all but the first 15 without effect", 7, () -> changed(30).undo());
        });
    }

    private static void undoRefused(Book book) {
        book.says(44, "Throws `IllegalStateException` if there is none", () -> {
            due("at first", STATE, () -> none().undo());
            for (int times = 1; times <= 10; times++) {
                JumpingAutomata x = changed(times);
                for (int i = 0; i < Math.min(times, 8); i++) {
                    x.undo();
                }
                due("after " + times + " changes", STATE, () -> x.undo());
                due("again", STATE, () -> x.undo());
                due("what was forgotten stays", Math.max(times - 8, 0), () -> x.transitionCount());
                x.setFinal(0, true);
                due("a new change", 0, () -> x.undo());
            }
            Portrait.refused(STATE, x -> {
                for (int i = 0; i < 8; i++) {
                    x.undo();
                }
            }, x -> x.undo());
        });
    }

    private static void save(Book book) {
        book.says(45, "Saves the automaton and the counting sets, in place of what was saved before.", () -> {
            JumpingAutomata x = automaton("0a1,!1");
            fill(x, 0, "100+100");
            fill(x, 1, "001");
            x.save();
            x.clearAutomaton();
            x.clearSet(0);
            x.clearSet(1);
            x.restore();
            due("the transitions", "1", () -> listOf(x));
            due("the first set", 6, () -> x.elements(0, 6));
            due("the second set", 1, () -> x.elements(1, 6));
            due("the final states", "1", () -> finalsOf(x));
            x.clearAutomaton();
            x.addTransition(4, 2, 4);
            x.save();
            x.restore();
            due("in place of what was saved before", "424", () -> listOf(x));
            due("with its final states", "", () -> finalsOf(x));
            JumpingAutomata y = automaton("0a1");
            y.save();
            y.undo();
            y.restore();
            due("undo does not take back what is saved", "1", () -> listOf(y));
            JumpingAutomata z = none();
            z.save();
            due("save is no change", STATE, () -> z.undo());
            due("an empty automaton can be saved", "void", () -> restore(z));
        });
    }

    private static void restoring(Book book) {
        book.says(46, "Restores the automaton and the counting sets as they were saved last.", () -> {
            JumpingAutomata x = automaton("0a1,!1");
            fill(x, 1, "222 333+111");
            x.save();
            x.addTransition(0, 1, 1);
            x.setFinal(1, false);
            x.addPeriod(1, 0, 1, 1, 1);
            x.addLinearSet(1, 0, 0, 0);
            x.restore();
            due("the transitions", "1", () -> listOf(x));
            due("the sets", 5, () -> x.elements(1, 6));
            due("its linear sets", 2, () -> x.addLinearSet(1, 9, 9, 9));
            due("its periods", 1, () -> x.addPeriod(1, 0, 9, 9, 9));
            due("their periods", 2, () -> x.addPeriod(1, 1, 9, 9, 9));
            due("the final states", "1", () -> finalsOf(x));
            JumpingAutomata y = automaton(PAIRS, "ba");
            y.save();
            y.clearAutomaton();
            Check.answerOf(y::orderCost);
            y.restore();
            due("and all that follows from them", 2, () -> y.orderCost());
        });
        book.says(46, "They stay saved.", () -> {
            JumpingAutomata x = automaton("0a1");
            x.save();
            for (int i = 0; i < 10; i++) {
                x.clearAutomaton();
                due("restore", "void", () -> restore(x));
                due("the transitions", "1", () -> listOf(x));
                x.addTransition(3, 2, 3);
            }
            for (int i = 0; i < 8; i++) {
                x.undo();
            }
            x.clearAutomaton();
            due("restore after undo", "void", () -> restore(x));
            due("the transitions again", "1", () -> listOf(x));
        });
        book.says(46, "Throws `IllegalStateException` if nothing was saved", () -> {
            due("at first", STATE, () -> restore(none()));
            JumpingAutomata x = automaton("0a1,!1");
            due("with changes", STATE, () -> restore(x));
            due("the automaton stays", "1", () -> listOf(x));
            due("no change was made", 0, () -> x.undo());
            x.save();
            due("after save", "void", () -> restore(x));
        });
    }
}
