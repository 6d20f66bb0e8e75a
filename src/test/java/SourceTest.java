import java.nio.file.Files;
import java.nio.file.Path;
import java.util.regex.Matcher;
import java.util.regex.Pattern;

/** Some rules of LANGUAGE.md that can be seen in the text of the class; its path is the argument. */
public final class SourceTest {
    private static final String[] FORBIDDEN = {
        "->", "::", "\\bfinally\\b", "\\bcatch\\b", "\\btry\\b", "\\bsynchronized\\b", "\\bassert\\b",
        "\\bprotected\\b", "\\bpackage\\b", "\\b\\w+Exact\\b", "\\bSystem\\.(?!arraycopy)", "\\bMath\\.(?!min|max|abs)",
        "\\bRandom\\b", "\\bThread\\b", "\\bHash\\w+", "\\.getMessage\\b", "\\bstatic\\s*\\{",
    };
    private static final int METHOD_LINES = 60;
    private static final int CLASSES = 12;

    public static void main(String[] args) throws Exception {
        String text = Files.readString(Path.of(args[0]));
        String code = text.replaceAll("(?s)/\\*.*?\\*/", "").replaceAll("//[^\n]*", "").replaceAll("\"[^\"\n]*\"", "\"\"");
        for (String forbidden : FORBIDDEN) {
            Matcher found = Pattern.compile(forbidden).matcher(code);
            if (found.find()) {
                Check.fail("the source has " + found.group());
            }
        }
        Matcher classes = Pattern.compile("\\bclass \\w+").matcher(code);
        Check.due("at most twelve classes", true, () -> classes.results().count() <= CLASSES);
        Matcher imports = Pattern.compile("(?m)^import .*$").matcher(code);
        Check.due("imports", "import java.util.NoSuchElementException;", () -> imports.find() ? imports.group() : "");
        Check.due("no other import", false, imports::find);
        makesNothingInCalls(code);
        hasShortMethods(code);
        Check.end();
    }

    /** All calls of a run live in one room, so only fields and exceptions are made. */
    private static void makesNothingInCalls(String code) {
        for (String line : code.split("\n")) {
            boolean isField = line.matches("\\s*(private )?final [\\w\\[\\]]+ \\w+ = new [^;]*;");
            if (line.contains("new ") && !isField && !line.contains("throw new ")) {
                Check.fail("made by a call: " + line.trim());
            }
        }
    }

    private static void hasShortMethods(String code) {
        String[] lines = code.split("\n");
        int start = -1;
        String indent = "";
        for (int i = 0; i < lines.length; i++) {
            if (start < 0 && lines[i].matches("( {4}| {8})[\\w].*\\(.*") && !lines[i].endsWith(";")) {
                start = i;
                indent = lines[i].replaceAll("\\S.*", "");
            } else if (start >= 0 && lines[i].equals(indent + "}")) {
                if (i - start + 1 > METHOD_LINES) {
                    Check.fail("too long: " + lines[start].trim());
                }
                start = -1;
            }
        }
    }
}
