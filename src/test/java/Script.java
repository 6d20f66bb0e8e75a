import java.io.IOException;
import java.net.URL;
import java.net.URLClassLoader;
import java.nio.file.Files;
import java.nio.file.Path;
import java.util.ArrayList;
import java.util.List;
import javax.tools.ToolProvider;

/**
 * Calls that stand in a text, with their answers. They are compiled as they stand, so that what a
 * text shows is Java that a reader can use; a call is a call of the object x.
 */
final class Script {
    private static final String NAME = "ScriptOfCalls";

    private final StringBuilder code = new StringBuilder("public final class " + NAME + " {\n");
    private final List<String> methods = new ArrayList<>();

    /** What follows is made in a method of its own; the text is told before each wrong answer. */
    void begin(String about) {
        end();
        methods.add("part" + methods.size());
        code.append("    public static void ").append(methods.get(methods.size() - 1)).append("() {\n");
        code.append("        Check.about(").append(quoted(about)).append(");\n");
    }

    void statement(String line) {
        code.append("        ").append(line).append('\n');
    }

    /** An answer is written as Java writes it, or as "throws" with the name of an exception. */
    void call(String call, String answer) {
        statement("Check.due(" + quoted(call) + ", " + quoted(answer.replace("throws ", "throws."))
            + ", () -> String.valueOf(" + call + "));");
    }

    void run() throws Exception {
        end();
        Path directory = Files.createTempDirectory("script");
        try {
            compileAndRun(directory);
        } finally {
            delete(directory);
        }
    }

    private void end() {
        code.append(methods.isEmpty() ? "" : "        Check.about(\"\");\n    }\n");
    }

    private void compileAndRun(Path directory) throws Exception {
        Path source = directory.resolve(NAME + ".java");
        Files.writeString(source, code + "}\n");
        String path = System.getProperty("java.class.path");
        int result = ToolProvider.getSystemJavaCompiler().run(null, System.out, System.out,
            "-cp", path, "-d", directory.toString(), source.toString());
        if (result != 0) {
            Check.fail("what the text shows is not compiled");
            return;
        }
        try (URLClassLoader loader = new URLClassLoader(new URL[] {directory.toUri().toURL()})) {
            for (String method : methods) {
                loader.loadClass(NAME).getMethod(method).invoke(null);
            }
        }
    }

    private static void delete(Path directory) throws IOException {
        try (var files = Files.list(directory)) {
            for (Path file : files.toList()) {
                Files.delete(file);
            }
        }
        Files.delete(directory);
    }

    private static String quoted(String text) {
        return '"' + text.replace("\\", "\\\\").replace("\"", "\\\"") + '"';
    }
}
