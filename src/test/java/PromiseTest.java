/** Ordinary inputs, edges and wrong inputs of each promise. */
public final class PromiseTest extends Lab {
    public static void main(String[] args) {
        newObject();
        texts();
        faults();
        textLimits();
        transitions();
        removals();
        finals();
        clearing();
        usefulness();
        words();
        modes();
        oneWayJumping();
        arrangements();
        readingOrders();
        reachedCounts();
        minimalCounts();
        cycles();
        buildingSets();
        members();
        comparisons();
        cyclePeriods();
        numbersOfWords();
        closure();
        densities();
        undoing();
        saving();
        Check.end();
    }

    // ---- calls that answer nothing

    private static Check.Call removal(JumpingAutomata x, int from, int letter, int to) {
        return () -> remove(x, from, letter, to);
    }

    private static Check.Call restored(JumpingAutomata x) {
        return () -> restore(x);
    }

    // ---- promise 1

    private static void newObject() {
        JumpingAutomata x = new JumpingAutomata();
        Check.due("new: transitionCount", 0, () -> x.transitionCount());
        Check.due("new: wordLength", 0, () -> x.wordLength());
        Check.due("new: faultPosition", -1, () -> x.faultPosition());
        Check.due("new: usefulStates", 0, () -> x.usefulStates());
        Check.due("new: isDeterministic", true, () -> x.isDeterministic());
        Check.due("new: clearSet(0)", 0, () -> x.clearSet(0));
        Check.due("new: clearSet(1)", 0, () -> x.clearSet(1));
        JumpingAutomata y = new JumpingAutomata();
        Check.due("new: undo", STATE, () -> y.undo());
        Check.due("new: restore", STATE, restored(y));
        Check.due("new: empty word", false, () -> y.accepts(0));
        Check.due("new: addText of the empty text", ARGUMENT, () -> y.addText());
        Check.due("new: its fault", 0, () -> y.faultPosition());
    }

    // ---- promises 2 to 4

    private static void texts() {
        JumpingAutomata x = new JumpingAutomata();
        Check.due("appendCharacter(32)", ARGUMENT, () -> x.appendCharacter(32));
        Check.due("appendCharacter(127)", ARGUMENT, () -> x.appendCharacter(127));
        Check.due("appendCharacter(least)", ARGUMENT, () -> x.appendCharacter(LEAST));
        Check.due("appendCharacter(33)", 1, () -> x.appendCharacter(33));
        Check.due("appendCharacter(126)", 2, () -> x.appendCharacter(126));
        Check.due("addText of !~", ARGUMENT, () -> x.addText());
        Check.due("fault of !~", 1, () -> x.faultPosition());
        type(x, "4c4,!2,0a1,0a1,!2");
        Check.due("addText adds once", 2, () -> x.addText());
        Check.due("fault of a good text", -1, () -> x.faultPosition());
        Check.due("its transitions", "1 424", () -> listOf(x));
        Check.due("its final state", true, () -> x.setFinal(2, true));
        Check.due("the text is empty again", 1, () -> x.appendCharacter('!'));
        type(x, "0");
        Check.due("a final state alone", 2, () -> x.addText());
        Check.due("state 0 is final", true, () -> x.accepts(0));
        type(x, "0a1,3b3");
        Check.due("an old and a new transition", 3, () -> x.addText());
        Check.due("undo of a text", 3, () -> x.undo());
        Check.due("takes all of it back", "1 424", () -> listOf(x));
    }

    private static void faults() {
        String[] texts = {"", "0", "0a", "0a1,", "!", "0a1,!", ",", "a", "5", "0d", "00", "0a5", "0aa", "0a1!",
            "0a12", "!5", "!a", "!0!", "!0,,", "0a1,5a1", "0A1", "0`1", "/a1", "!/", "0a1;!0", "!!"};
        int[] due = {0, 1, 2, 4, 1, 5, 0, 0, 0, 1, 1, 2, 2, 3, 3, 1, 1, 2, 3, 4, 1, 1, 0, 1, 3, 1};
        for (int i = 0; i < texts.length; i++) {
            JumpingAutomata x = automaton("1b2,!3");
            type(x, texts[i]);
            Check.due("addText of " + texts[i], ARGUMENT, () -> x.addText());
            Check.due("fault of " + texts[i], due[i], () -> x.faultPosition());
            Check.due("transitions after " + texts[i], "112", () -> listOf(x));
            Check.due("undo after " + texts[i], 0, () -> x.undo());
            type(x, "!0");
            Check.due("a good text after " + texts[i], 0, () -> x.addText());
            Check.due("no fault after " + texts[i], -1, () -> x.faultPosition());
        }
    }

    private static void textLimits() {
        JumpingAutomata x = new JumpingAutomata();
        type(x, "0a0,0a1,0a2,0a3,0a4,1a0,1a1,1a2,1a3,1a4");
        Check.due("the 40th character", 40, () -> x.appendCharacter(','));
        Check.due("the 41st character", STATE, () -> x.appendCharacter(','));
        Check.due("a wrong 41st character", ARGUMENT, () -> x.appendCharacter(200));
        Check.due("a full text that ends too early", ARGUMENT, () -> x.addText());
        Check.due("its fault", 40, () -> x.faultPosition());
        type(x, "0a0,0a1,0a2,0a3,0a4,1a0,1a1,1a2,1a3,1a4");
        Check.due("ten transitions", 10, () -> x.addText());
        type(x, "2a0,2a1,2a2,2a3,2a4,2b0,!1");
        Check.due("sixteen transitions", STATE, () -> x.addText());
        Check.due("that text had no fault", -1, () -> x.faultPosition());
        Check.due("nothing was added", 10, () -> x.transitionCount());
        Check.due("nothing became final", false, () -> x.setFinal(1, false));
        Check.due("the text was emptied", 1, () -> x.appendCharacter('2'));
        type(x, "a0,2a1,2a2,2a3,2a4,0a0,2a0");
        Check.due("fifteen transitions", 15, () -> x.addText());
        type(x, "0b0,9");
        Check.due("a fault comes before too many", ARGUMENT, () -> x.addText());
        Check.due("the fault", 4, () -> x.faultPosition());
    }

    // ---- promises 5 to 12

    private static void transitions() {
        JumpingAutomata x = new JumpingAutomata();
        int[][] wrong = {{-1, 0, 0}, {5, 0, 0}, {0, -1, 0}, {0, 3, 0}, {0, 0, -1}, {0, 0, 5}, {LEAST, MOST, 0}};
        for (int[] w : wrong) {
            Check.due("wrong transition", INDEX, () -> x.addTransition(w[0], w[1], w[2]));
            Check.due("wrong removal", INDEX, removal(x, w[0], w[1], w[2]));
        }
        Check.due("add 3 1 2", true, () -> x.addTransition(3, 1, 2));
        Check.due("add 3 0 4", true, () -> x.addTransition(3, 0, 4));
        Check.due("add 0 2 4", true, () -> x.addTransition(0, 2, 4));
        Check.due("add 3 1 0", true, () -> x.addTransition(3, 1, 0));
        Check.due("add 3 1 2 again", false, () -> x.addTransition(3, 1, 2));
        Check.due("in order", "24 304 310 312", () -> listOf(x));
        Check.due("transition(-1)", INDEX, () -> x.transition(-1));
        Check.due("transition(4)", INDEX, () -> x.transition(4));
        Check.due("transition(most)", INDEX, () -> x.transition(MOST));
        Check.due("not deterministic", false, () -> x.isDeterministic());
        Check.due("removed", "void", removal(x, 3, 1, 0));
        Check.due("deterministic", true, () -> x.isDeterministic());
        for (int i = 0; i < 12; i++) {
            int from = i / 5;
            int to = i % 5;
            Check.due("more", true, () -> x.addTransition(from, 1, to));
        }
        Check.due("full", 15, () -> x.transitionCount());
        Check.due("the 16th", STATE, () -> x.addTransition(4, 2, 4));
        Check.due("an old one when full", false, () -> x.addTransition(0, 2, 4));
        Check.due("the last one", 312, () -> x.transition(14));
        Check.due("wrong when full", INDEX, () -> x.addTransition(4, 2, 5));
    }

    private static void removals() {
        JumpingAutomata x = automaton("0a1,0a2,0b1,!1");
        Check.due("remove what is not there", ELEMENT, removal(x, 1, 0, 0));
        Check.due("remove 0 0 1", "void", removal(x, 0, 0, 1));
        Check.due("left", "2 11", () -> listOf(x));
        Check.due("remove it again", ELEMENT, removal(x, 0, 0, 1));
        word(x, "a");
        Check.due("a is no longer accepted", false, () -> x.accepts(0));
    }

    private static void finals() {
        JumpingAutomata x = new JumpingAutomata();
        Check.due("setFinal(-1)", INDEX, () -> x.setFinal(-1, true));
        Check.due("setFinal(5)", INDEX, () -> x.setFinal(5, false));
        Check.due("setFinal(4, true)", false, () -> x.setFinal(4, true));
        Check.due("setFinal(4, true) again", true, () -> x.setFinal(4, true));
        Check.due("setFinal(4, false)", true, () -> x.setFinal(4, false));
        Check.due("setFinal(4, false) again", false, () -> x.setFinal(4, false));
        Check.due("all four are changes", 3, () -> x.undo());
    }

    private static void clearing() {
        JumpingAutomata x = automaton("0a0,1b2,!0,!3");
        word(x, "a");
        x.addLinearSet(1, 2, 2, 2);
        x.clearAutomaton();
        Check.due("cleared transitions", 0, () -> x.transitionCount());
        for (int state = 0; state < 5; state++) {
            int s = state;
            Check.due("cleared final state", false, () -> x.setFinal(s, false));
        }
        type(x, "1c1");
        Check.due("an old text is not added again", 1, () -> x.addText());
        Check.due("the word stays", 1, () -> x.wordLength());
        Check.due("the sets stay", 1, () -> x.clearSet(1));
        Check.due("not accepted any more", false, () -> x.accepts(0));
        JumpingAutomata y = new JumpingAutomata();
        y.clearAutomaton();
        Check.due("an idle clearing is a change", 0, () -> y.undo());
    }

    private static void usefulness() {
        Check.due("initial and final", 1, () -> automaton("!0").usefulStates());
        Check.due("a final state that is not reached", 0, () -> automaton("!1").usefulStates());
        Check.due("a chain", 31, () -> automaton("0a1,1b2,2c3,3a4,!4").usefulStates());
        Check.due("a chain backwards", 31, () -> automaton("0a4,4b3,3c2,2a1,!1").usefulStates());
        Check.due("a dead end and an unreached one", 0b00011, () -> automaton("0a1,0b2,3a1,!1").usefulStates());
        Check.due("not initial if it leads nowhere", 0, () -> automaton("0a1,1a0,2a3,!3").usefulStates());
    }

    // ---- promises 13 to 16

    private static void words() {
        JumpingAutomata x = new JumpingAutomata();
        Check.due("appendLetter(-1)", ARGUMENT, () -> x.appendLetter(-1));
        Check.due("appendLetter(3)", ARGUMENT, () -> x.appendLetter(3));
        Check.due("letterAt(0) of the empty word", INDEX, () -> x.letterAt(0));
        for (int i = 0; i < 8; i++) {
            int letter = (i + 2) % 3;
            int due = i + 1;
            Check.due("append", due, () -> x.appendLetter(letter));
        }
        Check.due("the 9th letter", STATE, () -> x.appendLetter(0));
        Check.due("a wrong 9th letter", ARGUMENT, () -> x.appendLetter(3));
        Check.due("the word", "cabcabca", () -> wordOf(x));
        Check.due("letterAt(-1)", INDEX, () -> x.letterAt(-1));
        Check.due("letterAt(8)", INDEX, () -> x.letterAt(8));
        Check.due("letterAt(least)", INDEX, () -> x.letterAt(LEAST));
        Check.due("wordLength", 8, () -> x.wordLength());
        Check.due("clearWord", 8, () -> x.clearWord());
        Check.due("clearWord again", 0, () -> x.clearWord());
        Check.due("letterAt(0) after clearing", INDEX, () -> x.letterAt(0));
        Check.due("words are no changes", STATE, () -> x.undo());
    }

    // ---- promises 17, 18, 21, 22

    private static void modes() {
        JumpingAutomata x = automaton("0a1,1b0,!0");
        Check.due("accepts(-1)", ARGUMENT, () -> x.accepts(-1));
        Check.due("accepts(3)", ARGUMENT, () -> x.accepts(3));
        for (int mode = 0; mode < 3; mode++) {
            int m = mode;
            Check.due("the empty word", true, () -> x.accepts(m));
        }
        word(x, "abab");
        Check.due("abab in order", true, () -> x.accepts(0));
        word(x, "aabb");
        Check.due("aabb in order", false, () -> x.accepts(0));
        Check.due("aabb jumping", true, () -> x.accepts(1));
        Check.due("aabb one-way", true, () -> x.accepts(2));
        word(x, "aab");
        Check.due("aab jumping", false, () -> x.accepts(1));
        Check.due("aab one-way", false, () -> x.accepts(2));
        x.addTransition(0, 0, 0);
        Check.due("mode 2 needs single targets", UNSUPPORTED, () -> x.accepts(2));
        Check.due("a wrong mode comes first", ARGUMENT, () -> x.accepts(3));
        Check.due("oneWayJumps needs them too", UNSUPPORTED, () -> x.oneWayJumps());
        Check.due("oneWayRest needs them too", UNSUPPORTED, () -> x.oneWayRest());
        Check.due("aab in order now", true, () -> x.accepts(0));
        Check.due("its runs", 1L, () -> x.runCount());
        JumpingAutomata y = automaton("0a0,0a1,0a2,1a0,1a1,1a2,2a0,2a1,2a2,!1");
        word(y, "aaaaaaaa");
        Check.due("runs of a to the 8", 2187L, () -> y.runCount());
        y.setFinal(0, true);
        Check.due("with two final states", 4374L, () -> y.runCount());
        word(y, "aab");
        Check.due("no runs", 0L, () -> y.runCount());
        Check.due("one run of the empty word", 1L, () -> {
            y.clearWord();
            return y.runCount();
        });
    }

    private static void oneWayJumping() {
        JumpingAutomata x = automaton("0a1,1b2,2c0,!0");
        word(x, "cba");
        Check.due("cba one-way", true, () -> x.accepts(2));
        Check.due("jumps of cba", 2, () -> x.oneWayJumps());
        Check.due("rest of cba", 0, () -> x.oneWayRest());
        word(x, "abc");
        Check.due("jumps of abc", 0, () -> x.oneWayJumps());
        word(x, "aabbcc");
        Check.due("jumps of aabbcc", 3, () -> x.oneWayJumps());
        word(x, "abcb");
        Check.due("abcb one-way", false, () -> x.accepts(2));
        Check.due("rest of abcb", 1, () -> x.oneWayRest());
        Check.due("no jump to nothing", 0, () -> x.oneWayJumps());
        word(x, "ccc");
        Check.due("nothing is read", 3, () -> x.oneWayRest());
        JumpingAutomata y = automaton("0a1,1b1,!1");
        word(y, "bab");
        Check.due("one-way is not in order", true, () -> y.accepts(2));
        JumpingAutomata z = automaton("0a1,0b2,1b3,!2");
        word(z, "ab");
        Check.due("one-way takes the first letter it can read", false, () -> z.accepts(2));
        Check.due("all is read, but the state is not final", 0, () -> z.oneWayRest());
        JumpingAutomata w = automaton("0a1,0b2,2a3,!3");
        word(w, "ab");
        Check.due("jumping may choose another letter", true, () -> w.accepts(1));
        Check.due("one-way may not", false, () -> w.accepts(2));
        Check.due("jumping words", 2L, () -> w.acceptedWords(1, 2));
        Check.due("one-way words", 1L, () -> w.acceptedWords(2, 2));
    }

    // ---- promises 19, 20

    private static void arrangements() {
        JumpingAutomata x = automaton("0a1,0b1,1a0,1c0,!0,!1");
        word(x, "caba");
        Check.due("arrangements of caba", 4L, () -> x.acceptedArrangements());
        Check.due("takeArrangement(-1)", ARGUMENT, () -> x.takeArrangement(-1));
        Check.due("takeArrangement(4)", ELEMENT, () -> x.takeArrangement(4));
        Check.due("takeArrangement(most)", ELEMENT, () -> x.takeArrangement(MOST));
        Check.due("the word stays", "caba", () -> wordOf(x));
        String[] due = {"aabc", "acba", "baac", "bcaa"};
        for (int i = 0; i < due.length; i++) {
            int rank = i;
            Check.due("takeArrangement", 4, () -> x.takeArrangement(rank));
            Check.due("arrangement " + rank, due[rank], () -> wordOf(x));
        }
        JumpingAutomata y = automaton("0a0,0b0,0c0,!0");
        word(y, "cbacbacb");
        Check.due("all arrangements", 560L, () -> y.acceptedArrangements());
        Check.due("the last one", 8, () -> y.takeArrangement(559));
        Check.due("is the greatest", "cccbbbaa", () -> wordOf(y));
        Check.due("the first one", 8, () -> y.takeArrangement(0));
        Check.due("is the least", "aabbbccc", () -> wordOf(y));
        y.clearWord();
        Check.due("of the empty word", 1L, () -> y.acceptedArrangements());
        Check.due("the empty arrangement", 0, () -> y.takeArrangement(0));
        Check.due("no second one", ELEMENT, () -> y.takeArrangement(1));
    }

    // ---- promises 23, 24

    private static void readingOrders() {
        JumpingAutomata x = automaton("0a0,0b0,0c0,!0");
        Check.due("the empty word costs", 0, () -> x.orderCost());
        Check.due("it has no position", INDEX, () -> x.orderPosition(0));
        word(x, "abcabcab");
        Check.due("in order costs", 7, () -> x.orderCost());
        Check.due("the order", "01234567", () -> orderOf(x));
        JumpingAutomata y = automaton("0a1,1b0,!0");
        word(y, "bbaa");
        Check.due("bbaa costs", 8, () -> y.orderCost());
        Check.due("the first of the best orders", "2130", () -> orderOf(y));
        Check.due("orderPosition(-1)", INDEX, () -> y.orderPosition(-1));
        Check.due("orderPosition(4)", INDEX, () -> y.orderPosition(4));
        word(y, "bba");
        Check.due("no reading order", ELEMENT, () -> y.orderCost());
        Check.due("no position", ELEMENT, () -> y.orderPosition(2));
        Check.due("a wrong index comes first", INDEX, () -> y.orderPosition(3));
        word(y, "ba");
        Check.due("the order follows the word", 1, () -> y.orderPosition(0));
        y.setFinal(0, false);
        Check.due("the cost follows the automaton", ELEMENT, () -> y.orderCost());
        y.undo();
        Check.due("and undo", 2, () -> y.orderCost());
        y.appendLetter(0);
        Check.due("and appendLetter", ELEMENT, () -> y.orderCost());
        word(y, "bbbbaaaa");
        Check.due("bbbbaaaa costs", 32, () -> y.orderCost());
        Check.due("an arrangement of it", 8, () -> y.takeArrangement(0));
        Check.due("the cost follows takeArrangement", 7, () -> y.orderCost());
        y.clearWord();
        Check.due("and clearWord", 0, () -> y.orderCost());
        Check.due("an open word", 2, () -> y.takeOpenWord(2));
        Check.due("the cost follows takeOpenWord", 2, () -> y.orderCost());
        JumpingAutomata z = automaton("0a1,0a2,1b3,2c3,!3");
        word(z, "ca");
        Check.due("a choice of targets", "10", () -> orderOf(z));
    }

    // ---- promises 25, 35, 26, 27, 43

    private static void reachedCounts() {
        JumpingAutomata x = automaton("0a1,1b0,!0");
        int[][] wrong = {{-1, 0, 0}, {0, -1, 0}, {0, 0, -1}, {10, 0, 0}, {0, 10, 0}, {0, 0, 10}};
        for (int[] w : wrong) {
            Check.due("reaches", ARGUMENT, () -> x.reaches(w[0], w[1], w[2]));
        }
        Check.due("reaches(0, 0, 0)", true, () -> x.reaches(0, 0, 0));
        Check.due("reaches(9, 9, 0)", true, () -> x.reaches(9, 9, 0));
        Check.due("reaches(9, 8, 0)", false, () -> x.reaches(9, 8, 0));
        Check.due("reaches(1, 1, 1)", false, () -> x.reaches(1, 1, 1));
        Check.due("reachedCounts(-1)", ARGUMENT, () -> x.reachedCounts(-1));
        Check.due("reachedCounts(7)", ARGUMENT, () -> x.reachedCounts(7));
        Check.due("reachedCounts(0)", 1, () -> x.reachedCounts(0));
        Check.due("reachedCounts(6)", 7, () -> x.reachedCounts(6));
        Check.due("all counts", 343, () -> automaton("0a0,0b0,0c0,!0").reachedCounts(6));
        Check.due("all nines", true, () -> automaton("0a1,1b2,2c0,!0").reaches(9, 9, 9));
    }

    private static void minimalCounts() {
        JumpingAutomata x = automaton("0a1,1b2,0c2,2a2,!2");
        Check.due("minimals", "1 110", () -> minimalsOf(x));
        Check.due("minimal(-1)", INDEX, () -> x.minimal(-1));
        Check.due("minimal(2)", INDEX, () -> x.minimal(2));
        Check.due("average", 1.5f, () -> x.averageMinimum());
        JumpingAutomata y = automaton("0a0,0b1,!0,!1");
        Check.due("the empty word is below all", "0", () -> minimalsOf(y));
        Check.due("its average", 0.0f, () -> y.averageMinimum());
        JumpingAutomata z = new JumpingAutomata();
        Check.due("no minimal counts", 0, () -> z.minimalCount());
        Check.due("minimal(0)", INDEX, () -> z.minimal(0));
        Check.due("no average", ARITHMETIC, () -> z.averageMinimum());
        JumpingAutomata w = automaton("0a1,0b1,0c1,1a2,1b2,1c2,2a3,2b3 2c3,3a4,3b4,3c4,!4");
        Check.due("all counts of four letters",
            "4 13 22 31 40 103 112 121 130 202 211 220 301 310 400", () -> minimalsOf(w));
        Check.due("their average", 4.0f, () -> w.averageMinimum());
        JumpingAutomata v = automaton("0a1,0b2,2b1,0c3,3c4,4c1,!1");
        Check.due("a third", "3 20 100", () -> minimalsOf(v));
        Check.due("average of 1, 2 and 3", 2.0f, () -> v.averageMinimum());
        JumpingAutomata u = automaton("0a1,0b1,0c2,2c1,!1");
        Check.due("a rounded average", 4.0f / 3.0f, () -> u.averageMinimum());
    }

    // ---- promises 28, 29

    private static void cycles() {
        JumpingAutomata x = automaton("0a1,1b0,1c1,0b2,2a2,!1");
        Check.due("cycles of useful states", "1 110", () -> cyclesOf(x));
        Check.due("cycle(-1)", INDEX, () -> x.cycle(-1));
        Check.due("cycle(2)", INDEX, () -> x.cycle(2));
        x.setFinal(2, true);
        Check.due("one more state is useful", "1 100 110", () -> cyclesOf(x));
        x.setFinal(1, false);
        x.setFinal(2, false);
        Check.due("no final state, no cycle", 0, () -> x.cycleCount());
        JumpingAutomata y = automaton("0a1,0b1,0c1,1a2,1b2,1c2,2a3,2b3,2c3 3a4,3b4,3c4,4a0,4b0,4c0,!3");
        Check.due("cycles of five letters", 21, () -> y.cycleCount());
        Check.due("the first one", 5, () -> y.cycle(0));
        Check.due("the last one", 500, () -> y.cycle(20));
        JumpingAutomata z = automaton("0a1,1a2,2a1,1b3,3b1,!1");
        Check.due("two loops at one state are two cycles", "20 200", () -> cyclesOf(z));
        Check.due("no cycles", INDEX, () -> automaton("0a1,!1").cycle(0));
    }

    // ---- promises 30 to 34

    private static void buildingSets() {
        JumpingAutomata x = new JumpingAutomata();
        Check.due("addLinearSet(-1)", INDEX, () -> x.addLinearSet(-1, 0, 0, 0));
        Check.due("addLinearSet(2) comes first", INDEX, () -> x.addLinearSet(2, 10, 0, 0));
        Check.due("a base of 10", ARGUMENT, () -> x.addLinearSet(0, 10, 0, 0));
        Check.due("a base of -1", ARGUMENT, () -> x.addLinearSet(0, 0, -1, 0));
        Check.due("a third 10", ARGUMENT, () -> x.addLinearSet(0, 0, 0, 10));
        for (int i = 0; i < 4; i++) {
            int due = i;
            Check.due("addLinearSet", due, () -> x.addLinearSet(1, due, 9, 0));
        }
        Check.due("the 5th", STATE, () -> x.addLinearSet(1, 0, 0, 0));
        Check.due("a wrong 5th", ARGUMENT, () -> x.addLinearSet(1, 0, 0, 10));
        Check.due("the other set has none", INDEX, () -> x.addPeriod(0, 0, 1, 0, 0));
        Check.due("addPeriod(2)", INDEX, () -> x.addPeriod(2, 0, 1, 0, 0));
        Check.due("addPeriod(-1)", INDEX, () -> x.addPeriod(-1, 0, 1, 0, 0));
        Check.due("linear -1", INDEX, () -> x.addPeriod(1, -1, 0, 0, 0));
        Check.due("linear 4", INDEX, () -> x.addPeriod(1, 4, 1, 0, 0));
        Check.due("a zero period", ARGUMENT, () -> x.addPeriod(1, 3, 0, 0, 0));
        Check.due("a period of 10", ARGUMENT, () -> x.addPeriod(1, 3, 1, 10, 0));
        Check.due("a period of -1", ARGUMENT, () -> x.addPeriod(1, 3, 1, 0, -1));
        Check.due("a period that would be zero as a code", ARGUMENT, () -> x.addPeriod(1, 3, 1, -10, 0));
        for (int i = 1; i <= 3; i++) {
            int due = i;
            Check.due("addPeriod", due, () -> x.addPeriod(1, 3, due, 0, 9));
        }
        Check.due("the 4th period", STATE, () -> x.addPeriod(1, 3, 1, 0, 0));
        Check.due("a wrong 4th period", ARGUMENT, () -> x.addPeriod(1, 3, 0, 0, 0));
        Check.due("clearSet(2)", INDEX, () -> x.clearSet(2));
        Check.due("clearSet(-1)", INDEX, () -> x.clearSet(-1));
        Check.due("clearSet(1)", 4, () -> x.clearSet(1));
        Check.due("clearSet(1) again", 0, () -> x.clearSet(1));
        Check.due("a new linear set", 0, () -> x.addLinearSet(1, 1, 1, 1));
        x.addLinearSet(1, 1, 1, 1);
        x.addLinearSet(1, 1, 1, 1);
        x.addLinearSet(1, 1, 1, 1);
        Check.due("has no old periods", 1, () -> x.addPeriod(1, 3, 0, 0, 1));
    }

    private static void members() {
        JumpingAutomata x = new JumpingAutomata();
        Check.due("an empty set", false, () -> x.contains(0, 0, 0, 0));
        Check.due("its elements", 0, () -> x.elements(0, 6));
        x.addLinearSet(0, 1, 0, 0);
        x.addPeriod(0, 0, 2, 1, 0);
        x.addPeriod(0, 0, 0, 1, 3);
        x.addLinearSet(0, 0, 9, 9);
        Check.due("the base", true, () -> x.contains(0, 1, 0, 0));
        Check.due("the other base", true, () -> x.contains(0, 0, 9, 9));
        Check.due("both periods", true, () -> x.contains(0, 5, 4, 6));
        Check.due("not both", false, () -> x.contains(0, 5, 4, 5));
        Check.due("periods of another linear set do not count", false, () -> x.contains(0, 2, 9, 9));
        Check.due("the other set", false, () -> x.contains(1, 1, 0, 0));
        Check.due("contains(2)", INDEX, () -> x.contains(2, 10, 0, 0));
        Check.due("contains(-1)", INDEX, () -> x.contains(-1, 0, 0, 0));
        Check.due("a number of 10", ARGUMENT, () -> x.contains(0, 0, 10, 0));
        Check.due("a number of -1", ARGUMENT, () -> x.contains(0, 0, 0, -1));
        Check.due("elements(0, 0)", 0, () -> x.elements(0, 0));
        Check.due("elements(0, 1)", 1, () -> x.elements(0, 1));
        Check.due("elements(0, 6)", 9, () -> x.elements(0, 6));
        Check.due("elements(2, 7)", INDEX, () -> x.elements(2, 7));
        Check.due("elements(0, 7)", ARGUMENT, () -> x.elements(0, 7));
        Check.due("elements(0, -1)", ARGUMENT, () -> x.elements(0, -1));
        x.addLinearSet(1, 0, 0, 0);
        x.addPeriod(1, 0, 1, 0, 0);
        x.addPeriod(1, 0, 0, 1, 0);
        x.addPeriod(1, 0, 0, 0, 1);
        Check.due("all counts", 343, () -> x.elements(1, 6));
        x.addLinearSet(1, 1, 1, 1);
        Check.due("counts count once", 343, () -> x.elements(1, 6));
        Check.due("all nines", true, () -> x.contains(1, 9, 9, 9));
    }

    // ---- promises 36 to 38

    private static void comparisons() {
        JumpingAutomata x = automaton("0a1,1b0,!0");
        Check.due("firstMissing(2, 7)", INDEX, () -> x.firstMissing(2, 7));
        Check.due("firstMissing(0, 7)", ARGUMENT, () -> x.firstMissing(0, 7));
        Check.due("firstMissing(0, -1)", ARGUMENT, () -> x.firstMissing(0, -1));
        Check.due("firstExtra(-1, 7)", INDEX, () -> x.firstExtra(-1, 7));
        Check.due("firstExtra(1, 7)", ARGUMENT, () -> x.firstExtra(1, 7));
        Check.due("firstExtra(1, -1)", ARGUMENT, () -> x.firstExtra(1, -1));
        Check.due("the empty word is missing", 0, () -> x.firstMissing(0, 6));
        Check.due("nothing is extra", ELEMENT, () -> x.firstExtra(0, 6));
        x.addLinearSet(0, 0, 0, 0);
        Check.due("110 is missing", 110, () -> x.firstMissing(0, 6));
        Check.due("but not within 0", ELEMENT, () -> x.firstMissing(0, 0));
        x.addPeriod(0, 0, 1, 1, 0);
        Check.due("nothing is missing", ELEMENT, () -> x.firstMissing(0, 6));
        Check.due("nothing is extra now", ELEMENT, () -> x.firstExtra(0, 6));
        x.addLinearSet(0, 0, 0, 6);
        x.addLinearSet(0, 5, 0, 0);
        x.addLinearSet(0, 0, 5, 0);
        Check.due("sums come first", 50, () -> x.firstExtra(0, 6));
        Check.due("and the bound", ELEMENT, () -> x.firstExtra(0, 4));
        Check.due("the other set misses all", 0, () -> x.firstMissing(1, 6));
        JumpingAutomata y = new JumpingAutomata();
        int[] codes = {666, 606, 60, 6, 0};
        for (int code : codes) {
            y.clearSet(1);
            y.addLinearSet(1, code / 100, code / 10 % 10, code % 10);
            Check.due("the only extra counts", code, () -> y.firstExtra(1, 6));
        }
        y.clearSet(1);
        y.addLinearSet(1, 0, 9, 0);
        y.addLinearSet(1, 0, 0, 7);
        Check.due("not beyond the bound", ELEMENT, () -> y.firstExtra(1, 6));
        y.addLinearSet(1, 1, 1, 0);
        y.addLinearSet(1, 1, 0, 1);
        Check.due("equal sums in order", 101, () -> y.firstExtra(1, 6));
        JumpingAutomata z = automaton("0a0,0b0,0c0,!0");
        z.addLinearSet(0, 0, 0, 0);
        z.addPeriod(0, 0, 0, 0, 1);
        z.addPeriod(0, 0, 0, 1, 0);
        Check.due("the first missing one", 100, () -> z.firstMissing(0, 1));
    }

    private static void cyclePeriods() {
        JumpingAutomata x = automaton("0a1,1b0,1c1,!0");
        Check.due("hasCyclePeriods(2, 0)", INDEX, () -> x.hasCyclePeriods(2, 0));
        Check.due("hasCyclePeriods(0, 0)", INDEX, () -> x.hasCyclePeriods(0, 0));
        x.addLinearSet(0, 3, 3, 3);
        Check.due("hasCyclePeriods(0, -1)", INDEX, () -> x.hasCyclePeriods(0, -1));
        Check.due("hasCyclePeriods(0, 1)", INDEX, () -> x.hasCyclePeriods(0, 1));
        Check.due("without periods", true, () -> x.hasCyclePeriods(0, 0));
        x.addPeriod(0, 0, 1, 1, 0);
        x.addPeriod(0, 0, 0, 0, 1);
        Check.due("with cycles", true, () -> x.hasCyclePeriods(0, 0));
        x.addPeriod(0, 0, 1, 1, 1);
        Check.due("with a cycle that is not simple", false, () -> x.hasCyclePeriods(0, 0));
        x.addLinearSet(0, 0, 0, 0);
        x.addPeriod(0, 1, 2, 0, 0);
        Check.due("with one wrong period", false, () -> x.hasCyclePeriods(0, 1));
        x.clearSet(0);
        x.addLinearSet(0, 0, 0, 0);
        x.addPeriod(0, 0, 1, 1, 0);
        x.clearAutomaton();
        Check.due("without cycles", false, () -> x.hasCyclePeriods(0, 0));
    }

    // ---- promises 39 to 42

    private static void numbersOfWords() {
        JumpingAutomata x = automaton("0a1,1b0,!0");
        int[][] wrong = {{-1, 0}, {3, 0}, {0, -1}, {0, 8}, {LEAST, MOST}};
        for (int[] w : wrong) {
            Check.due("acceptedWords", ARGUMENT, () -> x.acceptedWords(w[0], w[1]));
            Check.due("density", ARGUMENT, () -> x.density(w[0], w[1]));
        }
        Check.due("in order, 6", 1L, () -> x.acceptedWords(0, 6));
        Check.due("jumping, 6", 20L, () -> x.acceptedWords(1, 6));
        Check.due("one-way, 6", 20L, () -> x.acceptedWords(2, 6));
        Check.due("jumping, 7", 0L, () -> x.acceptedWords(1, 7));
        for (int mode = 0; mode < 3; mode++) {
            int m = mode;
            Check.due("the empty word", 1L, () -> x.acceptedWords(m, 0));
        }
        JumpingAutomata y = automaton("0a0,0b0,0c0,!0");
        for (int mode = 0; mode < 3; mode++) {
            int m = mode;
            Check.due("all words", 2187L, () -> y.acceptedWords(m, 7));
        }
        JumpingAutomata z = automaton("0a1,0b2,1b3,!2");
        Check.due("fewer one-way than jumping", 1L, () -> z.acceptedWords(2, 1) + z.acceptedWords(2, 2));
        z.addTransition(0, 0, 0);
        Check.due("mode 2", UNSUPPORTED, () -> z.acceptedWords(2, 3));
        Check.due("a wrong length comes first", ARGUMENT, () -> z.acceptedWords(2, 8));
        Check.due("a word counts once", 1L, () -> automaton("0a1,0a2,!1,!2").acceptedWords(0, 1));
    }

    private static void closure() {
        JumpingAutomata x = automaton("0a1,1b2,!2,!0");
        Check.due("isClosed(-1)", ARGUMENT, () -> x.isClosed(-1));
        Check.due("isClosed(8)", ARGUMENT, () -> x.isClosed(8));
        Check.due("takeOpenWord(-1)", ARGUMENT, () -> x.takeOpenWord(-1));
        Check.due("takeOpenWord(8)", ARGUMENT, () -> x.takeOpenWord(8));
        word(x, "ccc");
        Check.due("closed up to 1", true, () -> x.isClosed(1));
        Check.due("not up to 2", false, () -> x.isClosed(2));
        Check.due("no open word up to 1", ELEMENT, () -> x.takeOpenWord(1));
        Check.due("the word stays", "ccc", () -> wordOf(x));
        Check.due("an open word", 2, () -> x.takeOpenWord(7));
        Check.due("it is", "ba", () -> wordOf(x));
        JumpingAutomata y = automaton("0c1,1a2,0b2,2a3,!3");
        Check.due("the shortest comes first", 2, () -> y.takeOpenWord(7));
        Check.due("then the least", "ab", () -> wordOf(y));
        JumpingAutomata z = automaton("0c1,1b2,2a3,3a4,!4");
        Check.due("the least of many", 4, () -> z.takeOpenWord(4));
        Check.due("it is", "aabc", () -> wordOf(z));
        Check.due("a closed automaton", true, () -> automaton("0a0,0b0,0c0,!0").isClosed(7));
        Check.due("no automaton", true, () -> new JumpingAutomata().isClosed(7));
        Check.due("no open word", ELEMENT, () -> new JumpingAutomata().takeOpenWord(7));
    }

    private static void densities() {
        JumpingAutomata x = automaton("0a1,1b0,!0");
        Check.due("in order", 1.0 / 9.0, () -> x.density(0, 2));
        Check.due("jumping", 6.0 / 81.0, () -> x.density(1, 4));
        Check.due("one-way", 20.0 / 729.0, () -> x.density(2, 6));
        Check.due("the empty word", 1.0, () -> x.density(0, 0));
        Check.due("none", 0.0, () -> x.density(1, 7));
        x.addTransition(1, 1, 1);
        Check.due("mode 2", UNSUPPORTED, () -> x.density(2, 2));
        Check.due("a wrong length comes first", ARGUMENT, () -> x.density(2, 8));
    }

    // ---- promises 44 to 46

    private static void undoing() {
        JumpingAutomata x = new JumpingAutomata();
        for (int i = 0; i < 10; i++) {
            x.addTransition(i % 5, i / 5, 0);
        }
        for (int i = 7; i >= 0; i--) {
            int due = i;
            Check.due("undo", due, () -> x.undo());
        }
        Check.due("older changes are forgotten", STATE, () -> x.undo());
        Check.due("two are left", "0 100", () -> listOf(x));
        JumpingAutomata y = automaton("0a1,!1");
        y.addLinearSet(0, 1, 0, 0);
        y.addPeriod(0, 0, 1, 0, 0);
        y.clearSet(0);
        y.removeTransition(0, 0, 1);
        y.setFinal(1, false);
        y.clearAutomaton();
        word(y, "a");
        Check.due("undo clearAutomaton", 6, () -> y.undo());
        Check.due("undo setFinal", 5, () -> y.undo());
        Check.due("undo removeTransition", 4, () -> y.undo());
        Check.due("a is accepted again", true, () -> y.accepts(0));
        Check.due("undo clearSet", 3, () -> y.undo());
        Check.due("the set is there again", true, () -> y.contains(0, 4, 0, 0));
        Check.due("undo addPeriod", 2, () -> y.undo());
        Check.due("the period is gone", false, () -> y.contains(0, 4, 0, 0));
        Check.due("undo addLinearSet", 1, () -> y.undo());
        Check.due("the linear set is gone", 0, () -> y.elements(0, 6));
        Check.due("the word stays", "a", () -> wordOf(y));
        Check.due("undo addText", 0, () -> y.undo());
        Check.due("all is gone", 0, () -> y.transitionCount());
        y.addTransition(0, 0, 0);
        Check.due("a change after undo", 0, () -> y.undo());
        Check.answerOf(() -> y.addTransition(9, 0, 0));
        Check.answerOf(() -> y.addPeriod(0, 0, 1, 0, 0));
        Check.due("failed calls are no changes", STATE, () -> y.undo());
        y.appendCharacter('!');
        y.addTransition(0, 0, 0);
        y.undo();
        Check.due("the text stays", 2, () -> y.appendCharacter('0'));
    }

    private static void saving() {
        JumpingAutomata x = automaton("0a1,!1");
        x.addLinearSet(1, 2, 0, 0);
        x.save();
        x.addPeriod(1, 0, 1, 0, 0);
        x.clearAutomaton();
        word(x, "a");
        Check.due("restore", "void", restored(x));
        Check.due("the automaton is back", true, () -> x.accepts(0));
        Check.due("the set is back", 1, () -> x.elements(1, 6));
        Check.due("the word stays", "a", () -> wordOf(x));
        Check.due("restore is a change", 4, () -> x.undo());
        Check.due("it was taken back", 0, () -> x.transitionCount());
        Check.due("the set too", 5, () -> x.elements(1, 6));
        Check.due("it stays saved", "void", restored(x));
        Check.due("once more", 1, () -> x.transitionCount());
        x.addTransition(2, 2, 2);
        Check.due("what is saved does not follow", "void", restored(x));
        Check.due("one transition", 1, () -> x.transitionCount());
        x.clearAutomaton();
        x.save();
        x.undo();
        Check.due("undo does not reach what is saved", "void", restored(x));
        Check.due("the newer one is saved", 0, () -> x.transitionCount());
        JumpingAutomata y = new JumpingAutomata();
        y.save();
        Check.due("save is no change", STATE, () -> y.undo());
        Check.due("a restore without effect", "void", restored(y));
        Check.due("is a change", 0, () -> y.undo());
    }
}
