/** What the tests of the promises share: short ways to objects, and what is told of them. */
abstract class Lab {
    static final String ARGUMENT = "throws.IllegalArgumentException";
    static final String STATE = "throws.IllegalStateException";
    static final String INDEX = "throws.IndexOutOfBoundsException";
    static final String ELEMENT = "throws.NoSuchElementException";
    static final String UNSUPPORTED = "throws.UnsupportedOperationException";
    static final String ARITHMETIC = "throws.ArithmeticException";
    static final int LEAST = Integer.MIN_VALUE;
    static final int MOST = Integer.MAX_VALUE;

    /** A loop for each letter: every word is accepted. */
    static final String ALL_WORDS = "0a0,0b0,0c0,!0";
    /** As many a as b, and in order only (ab)*. */
    static final String PAIRS = "0a1,1b0,!0";
    /** Two transitions with one source and letter, so that mode 2 is refused. */
    static final String BRANCHING = "0a0,0a1,1b0,!0";
    /** Fifteen transitions in two texts. */
    static final String FIFTEEN = "0a0,0a1,0a2,0a3,0a4,1a0,1a1,1a2,1a3,1a4 2b0,2b1,2b2,2b3,2b4";

    /** A call on an object that was made for it. */
    interface Act {
        Object on(JumpingAutomata x);
    }

    interface Recipe {
        void on(JumpingAutomata x);
    }

    /** A call with one value of a parameter. */
    interface With {
        Object make(int value);
    }

    // ---- due answers

    static void due(String call, Object want, Check.Call made) {
        Check.due(call, want, made);
    }

    static void allows(With call, With want, int... values) {
        for (int value : values) {
            due("with " + value, want.make(value), () -> call.make(value));
        }
    }

    static void refuses(String exception, With call, int... values) {
        for (int value : values) {
            due("with " + value, exception, () -> call.make(value));
        }
    }

    // ---- short ways to objects

    static JumpingAutomata none() {
        return new JumpingAutomata();
    }

    /** The items of several texts, with a blank between two texts. */
    static JumpingAutomata automaton(String texts) {
        JumpingAutomata x = none();
        read(x, texts);
        return x;
    }

    static JumpingAutomata automaton(String texts, String letters) {
        JumpingAutomata x = automaton(texts);
        word(x, letters);
        return x;
    }

    static void read(JumpingAutomata x, String texts) {
        for (String text : texts.split(" ")) {
            type(x, text);
            x.addText();
        }
    }

    static void type(JumpingAutomata x, String text) {
        for (int i = 0; i < text.length(); i++) {
            x.appendCharacter(text.charAt(i));
        }
    }

    static JumpingAutomata typed(String text) {
        JumpingAutomata x = none();
        type(x, text);
        return x;
    }

    static void word(JumpingAutomata x, String letters) {
        x.clearWord();
        for (int i = 0; i < letters.length(); i++) {
            x.appendLetter(letters.charAt(i) - 'a');
        }
    }

    /** Linear sets "base+period+period", with a blank between two, as codes of counts. */
    static void fill(JumpingAutomata x, int set, String linears) {
        x.clearSet(set);
        for (String linear : linears.split(" ")) {
            String[] codes = linear.split("\\+");
            int number = x.addLinearSet(set, digit(codes[0], 0), digit(codes[0], 1), digit(codes[0], 2));
            for (int i = 1; i < codes.length; i++) {
                x.addPeriod(set, number, digit(codes[i], 0), digit(codes[i], 1), digit(codes[i], 2));
            }
        }
    }

    static JumpingAutomata filled(int set, String linears) {
        JumpingAutomata x = none();
        fill(x, set, linears);
        return x;
    }

    private static int digit(String code, int place) {
        return code.charAt(place) - '0';
    }

    // ---- calls that answer nothing

    static Object remove(JumpingAutomata x, int from, int letter, int to) {
        x.removeTransition(from, letter, to);
        return "void";
    }

    static Object restore(JumpingAutomata x) {
        x.restore();
        return "void";
    }

    // ---- what is told of objects

    static String wordOf(JumpingAutomata x) {
        StringBuilder letters = new StringBuilder();
        for (int i = 0; i < x.wordLength(); i++) {
            letters.append((char) ('a' + x.letterAt(i)));
        }
        return letters.toString();
    }

    static String orderOf(JumpingAutomata x) {
        StringBuilder order = new StringBuilder();
        for (int i = 0; i < x.wordLength(); i++) {
            order.append(x.orderPosition(i));
        }
        return order.toString();
    }

    static String listOf(JumpingAutomata x) {
        StringBuilder list = new StringBuilder();
        for (int i = 0; i < x.transitionCount(); i++) {
            list.append(i > 0 ? " " : "").append(x.transition(i));
        }
        return list.toString();
    }

    static String minimalsOf(JumpingAutomata x) {
        StringBuilder list = new StringBuilder();
        for (int i = 0; i < x.minimalCount(); i++) {
            list.append(i > 0 ? " " : "").append(x.minimal(i));
        }
        return list.toString();
    }

    static String cyclesOf(JumpingAutomata x) {
        StringBuilder list = new StringBuilder();
        for (int i = 0; i < x.cycleCount(); i++) {
            list.append(i > 0 ? " " : "").append(x.cycle(i));
        }
        return list.toString();
    }

    /** Makes each state not final, one change each, and tells which were. */
    static String finalsOf(JumpingAutomata x) {
        StringBuilder states = new StringBuilder();
        for (int state = 0; state < 5; state++) {
            states.append(x.setFinal(state, false) ? state : "");
        }
        return states.toString();
    }
}
