import java.lang.reflect.InvocationTargetException;
import java.lang.reflect.Method;
import java.util.ArrayList;
import java.util.Arrays;
import java.util.List;
import java.util.Random;

/** Runs of chosen calls, the same ones on the program and on the oracle, with a fixed seed. */
public final class OracleTest {
    private static final int RUNS = 400;
    private static final int CALLS = 110;

    private static final String[] CHANGES = {
        "addTransition", "addTransition", "addTransition", "addTransition", "addTransition", "setFinal",
        "setFinal", "removeTransition", "addLinearSet", "addPeriod", "addPeriod", "appendLetter",
        "appendLetter", "appendLetter", "text", "text", "undo", "save", "restore", "takeArrangement",
        "takeOpenWord",
    };
    private static final String[] RARE = {"clearAutomaton", "clearSet", "clearWord"};

    private final Random random;
    private final boolean deterministic;
    private final int letterLimit;
    private final JumpingAutomata program = new JumpingAutomata();
    private final Oracle oracle = new Oracle();
    private final List<String> told = new ArrayList<>();

    private OracleTest(int seed) {
        random = new Random(seed);
        deterministic = seed % 2 == 0;
        letterLimit = seed % 16 == 0 ? 8 : 6;
    }

    public static void main(String[] args) throws Exception {
        List<Method> methods = new ArrayList<>();
        for (Method m : JumpingAutomata.class.getDeclaredMethods()) {
            if (java.lang.reflect.Modifier.isPublic(m.getModifiers())) {
                methods.add(m);
            }
        }
        methods.sort((x, y) -> x.getName().compareTo(y.getName()));
        for (int seed = 0; seed < RUNS; seed++) {
            if (!new OracleTest(seed).run(methods)) {
                break;
            }
        }
        Check.end();
    }

    private boolean run(List<Method> methods) throws Exception {
        if (!begin(methods)) {
            return false;
        }
        for (int i = 0; i < CALLS; i++) {
            boolean same;
            if (random.nextInt(4) == 0) {
                String name = random.nextInt(60) == 0 ? pick(RARE) : pick(CHANGES);
                same = name.equals("text") ? sameText() : same(named(methods, name));
            } else {
                Method method = methods.get(random.nextInt(methods.size()));
                same = method.getName().startsWith("clear") || same(method);
            }
            if (!same) {
                return false;
            }
        }
        return true;
    }

    /** Most runs begin with an automaton, counting sets and a word, so that the answers are many. */
    private boolean begin(List<Method> methods) throws Exception {
        if (random.nextInt(8) == 0) {
            return true;
        }
        boolean same = repeat(methods, "addTransition", 3 + random.nextInt(18))
            && repeat(methods, "setFinal", 1 + random.nextInt(3))
            && repeat(methods, "appendLetter", random.nextInt(letterLimit + 1))
            && repeat(methods, "addLinearSet", random.nextInt(7))
            && repeat(methods, "addPeriod", random.nextInt(12));
        for (int i = random.nextInt(8); same && i > 0; i--) {
            same = sameCall(JumpingAutomata.class.getMethod("undo"), new Object[0]);
        }
        return same;
    }

    private boolean repeat(List<Method> methods, String name, int times) throws Exception {
        for (int i = 0; i < times; i++) {
            if (!same(named(methods, name))) {
                return false;
            }
        }
        return true;
    }

    private String pick(String[] names) {
        return names[random.nextInt(names.length)];
    }

    private static Method named(List<Method> methods, String name) {
        for (Method m : methods) {
            if (m.getName().equals(name)) {
                return m;
            }
        }
        throw new IllegalStateException(name);
    }

    private boolean same(Method method) throws Exception {
        String name = method.getName();
        Object[] arguments = argumentsOf(name, method.getParameterCount());
        if (name.equals("appendLetter") && oracle.wordLength() >= letterLimit) {
            return true;
        }
        if (name.equals("addTransition") && deterministic && wouldBranch(arguments)) {
            return true;
        }
        return sameCall(method, arguments);
    }

    private boolean wouldBranch(Object[] arguments) {
        if (random.nextInt(12) == 0) {
            return false;
        }
        for (int i = 0; i < oracle.transitionCount(); i++) {
            if (oracle.transition(i) / 10 == 10 * (Integer) arguments[0] + (Integer) arguments[1]) {
                return true;
            }
        }
        return false;
    }

    private boolean sameText() throws Exception {
        int items = 1 + random.nextInt(4);
        StringBuilder text = new StringBuilder();
        for (int i = 0; i < items; i++) {
            text.append(i > 0 ? "," : "");
            if (random.nextInt(4) == 0) {
                text.append('!').append(random.nextInt(5));
            } else {
                text.append(random.nextInt(5)).append((char) ('a' + random.nextInt(3))).append(random.nextInt(5));
            }
        }
        if (random.nextInt(3) == 0) {
            text.setCharAt(random.nextInt(text.length()), "0a4c5d!,`/~"
                .charAt(random.nextInt(11)));
        }
        if (random.nextInt(6) == 0) {
            text.setLength(random.nextInt(text.length()));
        }
        Method append = JumpingAutomata.class.getMethod("appendCharacter", int.class);
        for (int i = 0; i < text.length(); i++) {
            if (!sameCall(append, new Object[] {(int) text.charAt(i)})) {
                return false;
            }
        }
        return sameCall(JumpingAutomata.class.getMethod("addText"), new Object[0])
            && sameCall(JumpingAutomata.class.getMethod("faultPosition"), new Object[0]);
    }

    private int from(int low, int high) {
        return random.nextInt(40) == 0 ? (random.nextBoolean() ? low - 1 : high + 1) : low + random.nextInt(high - low + 1);
    }

    /** Mostly small, so that sums of copies stay in the box. */
    private int digit() {
        return random.nextInt(6) == 0 ? from(0, 9) : from(0, 2);
    }

    private Object[] argumentsOf(String name, int count) {
        switch (name) {
            case "addTransition": case "removeTransition":
                return new Object[] {from(0, 4), from(0, 2), from(0, 4)};
            case "setFinal":
                return new Object[] {from(0, 4), random.nextInt(4) > 0};
            case "reaches":
                return new Object[] {from(0, 9), from(0, 9), from(0, 9)};
            case "contains":
                return random.nextBoolean() ? new Object[] {from(0, 1), digit(), digit(), digit()}
                    : new Object[] {from(0, 1), from(0, 9), from(0, 9), from(0, 9)};
            case "addLinearSet":
                return new Object[] {from(0, 1), digit(), digit(), digit()};
            case "addPeriod":
                return new Object[] {from(0, 1), from(0, 2), digit(), digit(), digit()};
            case "elements": case "firstMissing": case "firstExtra":
                return new Object[] {from(0, 1), from(0, 6)};
            case "hasCyclePeriods":
                return new Object[] {from(0, 1), from(0, 2)};
            case "acceptedWords": case "density":
                return new Object[] {from(0, 2), random.nextInt(4) == 0 ? from(0, 7) : from(0, 4)};
            case "isClosed": case "takeOpenWord":
                return new Object[] {random.nextInt(4) == 0 ? from(0, 7) : from(0, 4)};
            case "reachedCounts":
                return new Object[] {from(0, 6)};
            case "appendLetter": case "accepts":
                return new Object[] {from(0, 2)};
            case "clearSet":
                return new Object[] {from(0, 1)};
            case "appendCharacter":
                return new Object[] {from(33, 126)};
            case "transition":
                return new Object[] {from(0, 14)};
            default:
                Object[] arguments = new Object[count];
                Arrays.fill(arguments, from(0, random.nextInt(3) == 0 ? 8 : 2));
                return arguments;
        }
    }

    private boolean sameCall(Method method, Object[] arguments) throws Exception {
        Method due = Oracle.class.getMethod(method.getName(), method.getParameterTypes());
        Object want = answer(due, oracle, arguments);
        Object got = answer(method, program, arguments);
        told.add(method.getName() + Arrays.toString(arguments) + " = " + got);
        if (!String.valueOf(want).equals(String.valueOf(got))) {
            Check.fail(String.join("\n", told) + "\ndue is " + want);
            return false;
        }
        return true;
    }

    private static Object answer(Method method, Object object, Object[] arguments) throws Exception {
        try {
            return method.invoke(object, arguments);
        } catch (InvocationTargetException e) {
            return "throws." + e.getCause().getClass().getSimpleName();
        }
    }
}
