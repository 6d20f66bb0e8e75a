import java.nio.file.Files;
import java.nio.file.Path;
import java.util.regex.Matcher;
import java.util.regex.Pattern;

/** The examples of the document, as they stand in it; its path is the second argument. */
public final class ExampleTest {
    private static final Pattern PART = Pattern.compile("(?s)\nExamples: (.*?)\nThe constructor and the methods follow");
    private static final Pattern CALL = Pattern.compile("(\\w+\\([^)]*\\)) = (.+)");
    private static final Pattern TYPED = Pattern.compile("appendCharacter for each character of (\"[^\"]*\")");

    /** How many calls each example has, so that none is lost by the way in which they are found. */
    private static final int[] CALLS = {12, 8, 6, 5};

    public static void main(String[] args) throws Exception {
        Matcher part = PART.matcher(Files.readString(Path.of(args[1])));
        if (part.find()) {
            runExamples(part.group(1));
        } else {
            Check.fail("the document has no examples");
        }
        Check.end();
    }

    private static void runExamples(String text) throws Exception {
        String[] examples = text.split("\n\\d+\\. ");
        Check.due("the examples of the document", CALLS.length, () -> examples.length - 1);
        Script script = new Script();
        for (int i = 1; i < examples.length; i++) {
            String example = examples[i].replaceAll("\\s+", " ").trim().replaceAll("\\.$", "");
            String[] calls = example.substring(example.indexOf(": ") + 2).split("; ");
            int due = i <= CALLS.length ? CALLS[i - 1] : 0;
            Check.due("the calls of example " + i, due, () -> calls.length);
            script.begin("example " + i);
            script.statement("JumpingAutomata x = new JumpingAutomata();");
            for (String call : calls) {
                addCall(script, call);
            }
        }
        script.run();
    }

    private static void addCall(Script script, String text) {
        Matcher call = CALL.matcher(text);
        Matcher typed = TYPED.matcher(text);
        if (call.matches()) {
            script.call("x." + call.group(1), call.group(2));
        } else if (typed.matches()) {
            script.statement("for (char sign : " + typed.group(1) + ".toCharArray()) { x.appendCharacter(sign); }");
        } else {
            Check.fail("not understood: " + text);
        }
    }
}
