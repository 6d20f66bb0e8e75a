import java.lang.reflect.Constructor;
import java.lang.reflect.Field;
import java.lang.reflect.Method;
import java.lang.reflect.Modifier;
import java.nio.file.Files;
import java.nio.file.Path;
import java.util.List;
import java.util.Set;
import java.util.TreeSet;

/**
 * The class has the public face of the document and nothing else that can be seen from outside. The
 * document's path is the second argument.
 */
public final class FaceTest {
    private static final int PROMISES = 46;
    private static final int FIELDS = 20;

    public static void main(String[] args) throws Exception {
        String document = Files.readString(Path.of(args[1]));
        List<String> face = Signatures.ofFace(document);
        Check.due("the promises of the document", PROMISES, () -> face.size());
        Check.due("the signatures of the promises", face, () -> Signatures.ofPromises(document));
        hasMethods(face);
        hasConstructor();
        hidesFields();
        hidesClasses(face);
        Check.due("public and final", Modifier.PUBLIC | Modifier.FINAL, () -> JumpingAutomata.class.getModifiers());
        Check.end();
    }

    private static void hasMethods(List<String> face) {
        Set<String> due = new TreeSet<>();
        for (String signature : face.subList(1, face.size())) {
            due.add(Signatures.typesIn(signature));
        }
        Set<String> got = new TreeSet<>();
        for (Method method : JumpingAutomata.class.getDeclaredMethods()) {
            int kind = method.getModifiers();
            if (Modifier.isPublic(kind) && !Modifier.isStatic(kind)) {
                got.add(lineOf(method));
            } else if (!Modifier.isPrivate(kind)) {
                Check.fail("seen from outside: " + method);
            }
        }
        Check.due("the face", due.toString(), got::toString);
    }

    private static void hasConstructor() {
        Constructor<?>[] made = JumpingAutomata.class.getDeclaredConstructors();
        Check.due("constructors", 1, () -> made.length);
        Check.due("its parameters", 0, () -> made[0].getParameterCount());
        Check.due("it is public", true, () -> Modifier.isPublic(made[0].getModifiers()));
    }

    private static void hidesFields() {
        for (Field field : JumpingAutomata.class.getDeclaredFields()) {
            Check.due("private " + field.getName(), true, () -> Modifier.isPrivate(field.getModifiers()));
        }
        hasFewFields(JumpingAutomata.class);
    }

    private static void hidesClasses(List<String> face) {
        Set<String> hidden = new TreeSet<>();
        addHidden(hidden, JumpingAutomata.class);
        for (Class<?> inside : JumpingAutomata.class.getDeclaredClasses()) {
            if (!Modifier.isStatic(inside.getModifiers()) || Modifier.isPublic(inside.getModifiers())) {
                Check.fail("not a hidden static class: " + inside);
            }
            addHidden(hidden, inside);
            hasFewFields(inside);
        }
        for (String signature : face) {
            String name = Signatures.nameIn(signature);
            Check.due("a hidden method is called " + name, false, () -> hidden.contains(name));
        }
    }

    private static void addHidden(Set<String> hidden, Class<?> type) {
        for (Method method : type.getDeclaredMethods()) {
            Check.due("at most seven parameters: " + method, true, () -> method.getParameterCount() <= 7);
            if (type != JumpingAutomata.class || !Modifier.isPublic(method.getModifiers())) {
                hidden.add(method.getName());
            }
        }
    }

    private static void hasFewFields(Class<?> type) {
        int fields = 0;
        for (Field field : type.getDeclaredFields()) {
            boolean isStatic = Modifier.isStatic(field.getModifiers());
            fields += isStatic ? 0 : 1;
            if (isStatic && !Modifier.isFinal(field.getModifiers())) {
                Check.fail("not a constant: " + field);
            }
        }
        int counted = fields;
        Check.due("at most twenty fields: " + type, true, () -> counted <= FIELDS);
    }

    private static String lineOf(Method method) {
        StringBuilder line = new StringBuilder();
        line.append(method.getReturnType().getSimpleName()).append(' ').append(method.getName()).append('(');
        String gap = "";
        for (Class<?> type : method.getParameterTypes()) {
            line.append(gap).append(type.getSimpleName());
            gap = ", ";
        }
        line.append(')');
        for (Class<?> type : method.getExceptionTypes()) {
            line.append(' ').append(type.getSimpleName());
        }
        return line.toString();
    }
}
