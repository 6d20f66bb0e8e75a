import java.lang.reflect.InvocationTargetException;
import java.lang.reflect.Method;
import java.lang.reflect.Modifier;
import java.util.Arrays;
import java.util.List;

/**
 * Each call with all combinations of extreme arguments, on objects that are empty, full, and between.
 * Whatever it throws must be of the very class that the face declares, so that what the machine throws
 * (ArrayIndexOutOfBoundsException, for one) is seen.
 */
public final class ExtremeTest extends Lab {
    private static final Integer[] MANY = {LEAST, LEAST + 1, -1, 0, 1, 2, 3, 4, 5, 6, 7, 8, 9, 10, 39, 40, 41, 126, MOST - 1, MOST};
    private static final Integer[] FEW = {LEAST, -1, 0, 1, 9, 10, MOST};

    public static void main(String[] args) throws Exception {
        for (Method method : JumpingAutomata.class.getDeclaredMethods()) {
            if (Modifier.isPublic(method.getModifiers())) {
                tryAll(method, none());
                tryAll(method, Portrait.lived());
                tryAll(method, full());
            }
        }
        Check.end();
    }

    private static JumpingAutomata full() {
        JumpingAutomata x = automaton(FIFTEEN, "abcabcab");
        for (int set = 0; set < 2; set++) {
            fill(x, set, "999+999+999+999 000+100+010+001 000+900+090+009 123+321+222+111");
        }
        for (int state = 0; state < 5; state++) {
            x.setFinal(state, true);
        }
        x.save();
        type(x, "0a0,0a1,0a2,0a3,0a4,1a0,1a1,1a2,1a3,1a4,");
        return x;
    }

    private static void tryAll(Method method, JumpingAutomata x) throws Exception {
        Class<?>[] types = method.getParameterTypes();
        Integer[] values = types.length > 3 ? FEW : MANY;
        Object[] arguments = new Object[types.length];
        int all = 1;
        for (int i = 0; i < types.length; i++) {
            all *= values.length;
        }
        for (int number = 0; number < all; number++) {
            int rest = number;
            for (int i = 0; i < types.length; i++) {
                Integer value = values[rest % values.length];
                arguments[i] = types[i] == boolean.class ? (Object) (value > 0) : value;
                rest /= values.length;
            }
            tryOne(method, x, arguments);
        }
    }

    private static void tryOne(Method method, JumpingAutomata x, Object[] arguments) throws Exception {
        try {
            method.invoke(x, arguments);
        } catch (InvocationTargetException e) {
            List<Class<?>> declared = Arrays.asList(method.getExceptionTypes());
            if (!declared.contains(e.getCause().getClass())) {
                Check.fail(method.getName() + Arrays.toString(arguments) + " threw " + e.getCause());
            }
        }
    }
}
