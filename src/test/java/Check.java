import java.util.Objects;

/**
 * What the tests share: due answers, due exceptions, and the exit code. It is public because the calls of
 * a Script come from another class loader.
 */
public final class Check {
    public interface Call {
        Object make();
    }

    private static int wrong = 0;
    private static String about = "";

    private Check() {
    }

    /** What the calls that follow are about; it is told before each wrong answer. */
    public static void about(String text) {
        about = text.isEmpty() ? "" : "[" + text + "] ";
    }

    public static void due(String call, Object want, Call made) {
        Object got = answerOf(made);
        if (!Objects.equals(got, want)) {
            fail(call + " answered " + got + ", due is " + want);
        }
    }

    /** A call that throws answers the simple name of what it throws. */
    static Object answerOf(Call made) {
        try {
            return made.make();
        } catch (RuntimeException e) {
            return "throws." + e.getClass().getSimpleName();
        }
    }

    static void fail(String text) {
        wrong++;
        System.out.println(about + text);
    }

    static void end() {
        System.out.println(wrong == 0 ? "all answers are as due" : wrong + " answers are not as due");
        if (wrong != 0) {
            System.exit(1);
        }
    }
}
