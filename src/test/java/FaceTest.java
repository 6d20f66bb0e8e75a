import java.lang.reflect.Constructor;
import java.lang.reflect.Field;
import java.lang.reflect.Method;
import java.lang.reflect.Modifier;
import java.util.Set;
import java.util.TreeSet;

/** The class has the public face of the document and nothing else that can be seen from outside. */
public final class FaceTest {
    private static final String[] FACE = {
        "int appendCharacter(int) IllegalArgumentException IllegalStateException",
        "int faultPosition()",
        "int addText() IllegalArgumentException IllegalStateException",
        "boolean addTransition(int, int, int) IndexOutOfBoundsException IllegalStateException",
        "void removeTransition(int, int, int) IndexOutOfBoundsException NoSuchElementException",
        "boolean setFinal(int, boolean) IndexOutOfBoundsException",
        "void clearAutomaton()",
        "int transitionCount()",
        "int transition(int) IndexOutOfBoundsException",
        "boolean isDeterministic()",
        "int usefulStates()",
        "int appendLetter(int) IllegalArgumentException IllegalStateException",
        "int clearWord()",
        "int wordLength()",
        "int letterAt(int) IndexOutOfBoundsException",
        "boolean accepts(int) IllegalArgumentException UnsupportedOperationException",
        "long runCount()",
        "long acceptedArrangements()",
        "int takeArrangement(int) IllegalArgumentException NoSuchElementException",
        "int oneWayJumps() UnsupportedOperationException",
        "int oneWayRest() UnsupportedOperationException",
        "int orderCost() NoSuchElementException",
        "int orderPosition(int) IndexOutOfBoundsException NoSuchElementException",
        "boolean reaches(int, int, int) IllegalArgumentException",
        "int minimalCount()",
        "int minimal(int) IndexOutOfBoundsException",
        "int cycleCount()",
        "int cycle(int) IndexOutOfBoundsException",
        "int addLinearSet(int, int, int, int) IndexOutOfBoundsException IllegalArgumentException "
            + "IllegalStateException",
        "int addPeriod(int, int, int, int, int) IndexOutOfBoundsException IllegalArgumentException "
            + "IllegalStateException",
        "int clearSet(int) IndexOutOfBoundsException",
        "boolean contains(int, int, int, int) IndexOutOfBoundsException IllegalArgumentException",
        "int elements(int, int) IndexOutOfBoundsException IllegalArgumentException",
        "int reachedCounts(int) IllegalArgumentException",
        "int firstMissing(int, int) IndexOutOfBoundsException IllegalArgumentException NoSuchElementException",
        "int firstExtra(int, int) IndexOutOfBoundsException IllegalArgumentException NoSuchElementException",
        "boolean hasCyclePeriods(int, int) IndexOutOfBoundsException",
        "long acceptedWords(int, int) IllegalArgumentException UnsupportedOperationException",
        "boolean isClosed(int) IllegalArgumentException",
        "int takeOpenWord(int) IllegalArgumentException NoSuchElementException",
        "double density(int, int) IllegalArgumentException UnsupportedOperationException",
        "float averageMinimum() ArithmeticException",
        "int undo() IllegalStateException",
        "void save()",
        "void restore() IllegalStateException",
    };

    public static void main(String[] args) {
        Set<String> due = new TreeSet<>(Set.of(FACE));
        Set<String> got = new TreeSet<>();
        Set<String> hidden = new TreeSet<>();
        for (Method method : JumpingAutomata.class.getDeclaredMethods()) {
            int kind = method.getModifiers();
            if (Modifier.isPublic(kind) && !Modifier.isStatic(kind)) {
                got.add(lineOf(method));
            } else if (Modifier.isPrivate(kind)) {
                hidden.add(method.getName());
            } else {
                Check.fail("seen from outside: " + method);
            }
        }
        Check.due("the face", due.toString(), got::toString);
        for (Class<?> inside : JumpingAutomata.class.getDeclaredClasses()) {
            if (!Modifier.isStatic(inside.getModifiers()) || Modifier.isPublic(inside.getModifiers())) {
                Check.fail("not a hidden static class: " + inside);
            }
            for (Method method : inside.getDeclaredMethods()) {
                hidden.add(method.getName());
                Check.due("at most seven parameters: " + method, true, () -> method.getParameterCount() <= 7);
            }
        }
        for (String line : FACE) {
            String name = line.substring(line.indexOf(' ') + 1, line.indexOf('('));
            Check.due("a hidden method is called " + name, false, () -> hidden.contains(name));
        }
        for (Field field : JumpingAutomata.class.getDeclaredFields()) {
            Check.due("private " + field.getName(), true, () -> Modifier.isPrivate(field.getModifiers()));
        }
        Constructor<?>[] made = JumpingAutomata.class.getDeclaredConstructors();
        Check.due("constructors", 1, () -> made.length);
        Check.due("its parameters", 0, () -> made[0].getParameterCount());
        Check.due("public and final", Modifier.PUBLIC | Modifier.FINAL, () -> JumpingAutomata.class.getModifiers());
        Check.end();
    }

    private static String lineOf(Method method) {
        StringBuilder line = new StringBuilder();
        line.append(method.getReturnType().getSimpleName()).append(' ').append(method.getName()).append('(');
        String gap = "";
        for (Class<?> type : method.getParameterTypes()) {
            line.append(gap).append(type.getSimpleName());
            gap = ", ";
        }
        line.append(')');
        for (Class<?> type : method.getExceptionTypes()) {
            line.append(' ').append(type.getSimpleName());
        }
        return line.toString();
    }
}
