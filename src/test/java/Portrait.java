/**
 * All that the face tells of an object. Taking a portrait changes the object, so it is the last thing
 * that is done with it; two of them are needed, since each hides what the other one shows.
 */
final class Portrait extends Lab {
    private Portrait() {
    }

    /** A call that is refused leaves the object as its twin, on which it was not made. */
    static void refused(String exception, Recipe recipe, Act act) {
        same(exception, recipe, act);
    }

    static void refused(String exception, Act act) {
        same(exception, x -> { }, act);
    }

    /** A call that answers leaves the object as its twin, on which it was not made. */
    static void unchanged(Object answer, Recipe recipe, Act act) {
        same(answer, recipe, act);
    }

    private static void same(Object want, Recipe recipe, Act act) {
        JumpingAutomata[] objects = new JumpingAutomata[4];
        for (int i = 0; i < 4; i++) {
            objects[i] = lived();
            recipe.on(objects[i]);
        }
        due("the call", want, () -> act.on(objects[0]));
        due("the same call", want, () -> act.on(objects[1]));
        String past = pastOf(objects[2]);
        String inside = insideOf(objects[3]);
        due("its past", past, () -> pastOf(objects[0]));
        due("its inside", inside, () -> insideOf(objects[1]));
    }

    /** An object with all that can be lost: a text, a fault, a word, sets, changes, and something saved. */
    static JumpingAutomata lived() {
        JumpingAutomata x = automaton("0a1,1b2,2c0,1a1,!2");
        x.addLinearSet(0, 1, 0, 0);
        x.addPeriod(0, 0, 2, 1, 0);
        x.save();
        x.addLinearSet(1, 0, 0, 3);
        x.setFinal(4, true);
        x.addTransition(3, 2, 4);
        x.addPeriod(1, 0, 0, 1, 0);
        x.removeTransition(1, 0, 1);
        type(x, "0d");
        Check.answerOf(x::addText);
        word(x, "cab");
        type(x, "!3,0");
        return x;
    }

    private static String pastOf(JumpingAutomata x) {
        StringBuilder told = new StringBuilder(outsideOf(x));
        for (int i = 0; i < 9; i++) {
            told.append(" | undo ").append(Check.answerOf(x::undo)).append(' ').append(outsideOf(x));
        }
        return told.toString();
    }

    private static String insideOf(JumpingAutomata x) {
        StringBuilder told = new StringBuilder(outsideOf(x));
        told.append(" | text ").append(Check.answerOf(() -> x.appendCharacter('~')));
        told.append(' ').append(Check.answerOf(x::addText)).append(' ').append(x.faultPosition());
        told.append(" | finals ").append(finalsOf(x));
        for (int set = 0; set < 2; set++) {
            told.append(" | set ").append(set);
            for (int linear = 0; linear < 4; linear++) {
                int s = set;
                int l = linear;
                told.append(' ').append(Check.answerOf(() -> x.addPeriod(s, l, 1, 0, 0)));
            }
            told.append(' ').append(x.contains(set, 9, 9, 9)).append(x.clearSet(set));
        }
        told.append(" | restore ").append(Check.answerOf(() -> restore(x)));
        told.append(' ').append(outsideOf(x)).append(' ').append(finalsOf(x));
        return told.toString();
    }

    private static String outsideOf(JumpingAutomata x) {
        StringBuilder told = new StringBuilder();
        told.append(wordOf(x)).append(' ').append(x.faultPosition()).append(' ').append(listOf(x));
        told.append(" useful ").append(x.usefulStates()).append(" sets");
        for (int set = 0; set < 2; set++) {
            int s = set;
            told.append(' ').append(x.elements(set, 3)).append(' ').append(x.elements(set, 6));
            told.append(' ').append(Check.answerOf(() -> x.firstExtra(s, 6)));
        }
        return told.toString();
    }
}
