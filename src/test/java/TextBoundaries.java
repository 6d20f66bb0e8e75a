/** Promises 1 to 4: a new object, and the text. */
final class TextBoundaries extends Lab {
    private static final String FORTY = "0a0,0a1,0a2,0a3,0a4,1a0,1a1,1a2,1a3,1a4,";

    private TextBoundaries() {
    }

    static void tell(Book book) {
        newObject(book);
        appendCharacter(book);
        faultPosition(book);
        addText(book);
        addTextRefused(book);
    }

    private static void newObject(Book book) {
        book.says(1, "Creates a laboratory with an automaton without transitions.", () -> {
            due("transitions", 0, () -> none().transitionCount());
            due("transition(0)", INDEX, () -> none().transition(0));
            due("final states", "", () -> finalsOf(none()));
            due("useful states", 0, () -> none().usefulStates());
            due("the word", 0, () -> none().wordLength());
            due("the text", 1, () -> none().appendCharacter('0'));
            due("the fault", -1, () -> none().faultPosition());
            due("set 0", 0, () -> none().clearSet(0));
            due("set 1", 0, () -> none().clearSet(1));
            due("undo", STATE, () -> none().undo());
            due("restore", STATE, () -> restore(none()));
            JumpingAutomata x = automaton(ALL_WORDS);
            JumpingAutomata y = none();
            due("objects share nothing", 0, () -> y.transitionCount() + y.usefulStates());
            due("the other one stays", 3, () -> x.transitionCount());
        });
    }

    private static void appendCharacter(Book book) {
        book.says(2, "Appends a character to the text.", () -> {
            JumpingAutomata x = typed("0a");
            x.appendCharacter('1');
            due("at the end", 1, () -> x.addText());
            due("it was read", "1", () -> listOf(x));
        });
        book.says(2, "- `character`: the character code, 33 to 126", () -> {
            allows(v -> none().appendCharacter(v), v -> 1, 33, 34, 48, 97, 125, 126);
            refuses(ARGUMENT, v -> none().appendCharacter(v), 32, 127);
        });
        book.says(2, "Returns the new length of the text.", () -> {
            JumpingAutomata x = none();
            for (int i = 1; i <= 40; i++) {
                int length = i;
                due("length", length, () -> x.appendCharacter('!'));
            }
        });
        book.says(2, "Throws `IllegalArgumentException` if character is not from 33 to 126", () -> {
            for (int wrong : new int[] {32, 127, 10, 0, -1, 128, 33 + 256, 33 - 65536, 33 + 65536, LEAST, MOST}) {
                Portrait.refused(ARGUMENT, x -> x.appendCharacter(wrong));
            }
        });
        book.says(2, "Throws `IllegalStateException` if the text has 40 characters", () -> {
            due("with 39", 40, () -> typed(FORTY.substring(1)).appendCharacter('0'));
            due("with 40", STATE, () -> typed(FORTY).appendCharacter('0'));
            Portrait.refused(STATE, x -> type(x, FORTY.substring(4)), x -> x.appendCharacter(33));
            JumpingAutomata x = typed(FORTY);
            for (int i = 0; i < 3; i++) {
                due("again", STATE, () -> x.appendCharacter(126));
            }
            due("it has not grown", ARGUMENT, () -> x.addText());
            due("nor changed", 40, () -> x.faultPosition());
        });
    }

    private static void faultPosition(Book book) {
        book.says(3, "Returns the fault position of the text that was read by the latest call of addText.", () -> {
            JumpingAutomata x = none();
            String[] texts = {"0a", "!0", "x", "0a1,", "", "0a1", "!"};
            int[] faults = {2, -1, 0, 4, 0, -1, 1};
            for (int i = 0; i < texts.length; i++) {
                type(x, texts[i]);
                Check.answerOf(x::addText);
                due("after " + texts[i], faults[i], () -> x.faultPosition());
                due("asked again", faults[i], () -> x.faultPosition());
            }
            type(x, "~~");
            due("not that of a text that was not read", 1, () -> x.faultPosition());
        });
        book.says(3, "Returns the fault position, or -1 if the text had no fault or addText has not been called.", () -> {
            due("not called", -1, () -> none().faultPosition());
            due("not called, with a wrong text", -1, () -> typed("~").faultPosition());
            due("no fault", -1, () -> automaton("!0").faultPosition());
            JumpingAutomata x = automaton(FIFTEEN);
            type(x, "~");
            Check.answerOf(x::addText);
            due("a fault at 0", 0, () -> x.faultPosition());
            type(x, "4c4");
            due("too many transitions", STATE, () -> x.addText());
            due("are no fault", -1, () -> x.faultPosition());
        });
    }

    private static void addText(Book book) {
        book.says(4, "Reads the text as an automaton text, empties it, and adds its transitions and makes its states"
            + " final; transitions that exist already are not added again.", () -> {
            JumpingAutomata x = automaton("3b1,!1");
            type(x, "3b1,0a4,!4,0a4,!1");
            due("addText", 2, () -> x.addText());
            due("transitions", "4 311", () -> listOf(x));
            due("the text is empty", 1, () -> x.appendCharacter('!'));
            type(x, "0");
            due("a final state alone", 2, () -> x.addText());
            due("final states", "014", () -> finalsOf(x));
            for (int state = 0; state < 5; state++) {
                String item = "!" + state;
                due(item, "" + state, () -> finalsOf(automaton(item)));
            }
        });
        book.says(4, "The text is emptied also if an exception is thrown.", () -> {
            JumpingAutomata x = typed("0a");
            due("a fault", ARGUMENT, () -> x.addText());
            due("its text is gone", 1, () -> x.appendCharacter('!'));
            due("a fault of one character", ARGUMENT, () -> x.addText());
            due("its text is gone too", ARGUMENT, () -> x.addText());
            due("the empty text", 0, () -> x.faultPosition());
            JumpingAutomata y = automaton(FIFTEEN);
            type(y, "4c4");
            due("too many", STATE, () -> y.addText());
            due("that text is gone", 1, () -> y.appendCharacter('!'));
            type(y, "0");
            due("and not read again", 15, () -> y.addText());
            JumpingAutomata z = typed(FORTY);
            due("a full text with a fault", ARGUMENT, () -> z.addText());
            due("leaves room", 1, () -> z.appendCharacter('0'));
        });
        book.says(4, "Returns the number of transitions of the automaton.", () -> {
            JumpingAutomata x = typed("!0");
            due("none", 0, () -> x.addText());
            type(x, FORTY.substring(0, 39));
            due("ten", 10, () -> x.addText());
            type(x, "2b0,2b1,2b2,2b3,2b4,0a0");
            due("fifteen, not only the new ones", 15, () -> x.addText());
        });
    }

    private static void addTextRefused(Book book) {
        book.says(4, "Throws `IllegalArgumentException` if the text has a fault", () -> {
            String[] texts = {"", ",", "0", "0a", "0a1,", "5a1", "0d1", "0a5", "!", "!5", "0a1!", "0a1,,", "!0,0a"};
            for (String text : texts) {
                JumpingAutomata x = Portrait.lived();
                due("a pending text", ARGUMENT, () -> x.addText());
                type(x, text);
                due(text, ARGUMENT, () -> x.addText());
                due("the transitions stay", "1 112 220 324", () -> listOf(x));
                due("the latest change is still the latest", 7, () -> x.undo());
                due("the final states stay", "24", () -> finalsOf(x));
            }
        });
        book.says(4, "Throws `IllegalStateException` if there would be more than 15 transitions", () -> {
            JumpingAutomata x = automaton("0a0,0a1,0a2,0a3,0a4,1a0,1a1,1a2,1a3,1a4 2b0,2b1,2b2,2b3");
            x.setFinal(3, true);
            type(x, "4c4,4c3,!1");
            due("sixteen", STATE, () -> x.addText());
            due("none of them is added", 14, () -> x.transitionCount());
            due("the latest change is still the latest", 2, () -> x.undo());
            x.setFinal(3, true);
            due("no state became final", "3", () -> finalsOf(x));
            type(x, "4c4,0a0,4c4,2b3");
            due("fifteen, since old ones and twins do not count", 15, () -> x.addText());
            type(x, "!0,4c4,0a0,2b3");
            due("fifteen again", 15, () -> x.addText());
            type(x, "4c3");
            due("one more", STATE, () -> x.addText());
            x.removeTransition(0, 0, 0);
            type(x, "4c3");
            due("one less", 15, () -> x.addText());
        });
    }
}
