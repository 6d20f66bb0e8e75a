import java.nio.file.Files;
import java.nio.file.Path;
import java.util.ArrayList;
import java.util.List;
import java.util.regex.Matcher;
import java.util.regex.Pattern;

/**
 * What README.md shows is so: each block of calls is compiled and answers what stands behind the calls,
 * the table has each promise, and each test is named. The paths of the document and of README.md are the
 * second and the third argument.
 */
public final class ReadmeTest {
    private static final Pattern BLOCK = Pattern.compile("(?s)```java\n(.*?)\n```");
    /** A call with its answer, which ends at a colon if there is more to say. */
    private static final Pattern ANSWERED = Pattern.compile("(x\\.\\w+\\(.*\\)); +// ([^:]+)(: .*)?");
    /** A call that answers nothing, and what is needed around calls. */
    private static final Pattern SILENT = Pattern.compile(
        "x\\.(save|restore|clearAutomaton|removeTransition)\\(.*\\);|JumpingAutomata x = new JumpingAutomata\\(\\);"
            + "|for \\(.*\\) \\{|    x\\.appendCharacter\\(sign\\);|\\}|");
    private static final Pattern ROW = Pattern.compile("(?m)^\\| (\\d+) \\| `(?:new )?([^`]+)` \\| [^|]+ \\|$");

    public static void main(String[] args) throws Exception {
        String document = Files.readString(Path.of(args[1]));
        Path path = Path.of(args[2]);
        String readme = Files.readString(path);
        runBlocks(readme);
        namesPromises(readme, document);
        namesTests(readme, path.resolveSibling("src/test/java"));
        Check.end();
    }

    private static void runBlocks(String readme) throws Exception {
        Script script = new Script();
        Matcher block = BLOCK.matcher(readme);
        int answers = 0;
        for (int number = 1; block.find(); number++) {
            script.begin("block " + number);
            for (String line : block.group(1).split("\n")) {
                Matcher answered = ANSWERED.matcher(line);
                if (answered.matches()) {
                    answers++;
                    script.call(answered.group(1), answered.group(2).trim());
                } else if (SILENT.matcher(line).matches()) {
                    script.statement(line);
                } else {
                    Check.fail("block " + number + " has a line without an answer: " + line);
                }
            }
        }
        script.run();
        int shown = answers;
        Check.due("README.md shows calls", true, () -> shown > 0);
    }

    private static void namesPromises(String readme, String document) {
        List<String> due = new ArrayList<>();
        for (String signature : Signatures.ofPromises(document)) {
            due.add((due.size() + 1) + " " + Signatures.callIn(signature));
        }
        List<String> got = new ArrayList<>();
        Matcher row = ROW.matcher(readme);
        while (row.find()) {
            got.add(row.group(1) + " " + row.group(2));
        }
        Check.due("the calls that README.md names", String.join("\n", due), () -> String.join("\n", got));
        Check.due("where they are described", true, () -> readme.contains("../shared/DOC.md"));
    }

    private static void namesTests(String readme, Path directory) throws Exception {
        Check.due("how the tests are run", true, () -> readme.contains("\n    .ci/run\n"));
        try (var files = Files.list(directory)) {
            for (Path file : files.toList()) {
                String name = file.getFileName().toString().replace(".java", "");
                boolean named = readme.contains("`" + name + "`");
                Check.due("README.md names " + name, true, () -> named || !name.endsWith("Test"));
            }
        }
    }
}
