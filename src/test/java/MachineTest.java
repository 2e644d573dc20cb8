import java.lang.reflect.InvocationTargetException;
import java.lang.reflect.Method;
import java.lang.reflect.Modifier;
import java.util.ArrayList;
import java.util.Arrays;
import java.util.Comparator;
import java.util.List;
import java.util.Random;

/**
 * Calls with any arguments in any state, on objects that are used far longer than the document tells: whatever is
 * thrown is told by the method, and thrown by a statement of its own, never by the machine.
 */
public final class MachineTest {
    private static final int OBJECTS = 120;
    private static final int CALLS = 4000;
    private static final int[] FAR = {Integer.MIN_VALUE, Integer.MIN_VALUE + 1, -100, -5, 10, 20, 21, 36, 40, 41, 60,
        61, 10000, 999998, 999999, 1000000, Integer.MAX_VALUE - 1, Integer.MAX_VALUE};
    private static final String LETTERS = "aabbccdeffklprrsvxz";

    private final Random random;
    private final ElmLedger program = new ElmLedger();

    private MachineTest(int seed) {
        random = new Random(seed);
    }

    public static void main(String[] args) throws Exception {
        List<Method> methods = new ArrayList<>(Arrays.asList(ElmLedger.class.getDeclaredMethods()));
        methods.removeIf(method -> !Modifier.isPublic(method.getModifiers()));
        methods.sort(Comparator.comparing(Method::getName));
        for (int seed = 0; seed < OBJECTS; seed++) {
            MachineTest test = new MachineTest(seed);
            for (int i = 0; i < CALLS; i++) {
                Method method = methods.get(test.random.nextInt(methods.size()));
                if (!method.getName().equals("start") || test.random.nextInt(20) == 0) {
                    test.call(method);
                }
            }
        }
        Check.end();
    }

    private void call(Method method) throws Exception {
        Object[] arguments = new Object[method.getParameterCount()];
        for (int i = 0; i < arguments.length; i++) {
            arguments[i] = argument(method.getParameterTypes()[i], method.getName().equals("need") && i > 1);
        }
        try {
            method.invoke(program, arguments);
        } catch (InvocationTargetException e) {
            Throwable thrown = e.getCause();
            String what = method.getName() + Arrays.toString(arguments) + " threw " + thrown;
            Check.same(what, true, Arrays.asList(method.getExceptionTypes()).contains(thrown.getClass()));
            Check.same(what + " itself", true, Thrown.isOwn(thrown, method.getName()));
        }
    }

    private Object argument(Class<?> kind, boolean isVersion) {
        boolean isFar = random.nextInt(12) == 0;
        if (kind == boolean.class) {
            return random.nextBoolean();
        }
        if (kind == char.class) {
            return isFar ? (char) random.nextInt(1 << 16) : LETTERS.charAt(random.nextInt(LETTERS.length()));
        }
        if (isVersion && !isFar) {
            return 10000 * random.nextInt(4) + 100 * random.nextInt(3) + random.nextInt(3);
        }
        return isFar ? FAR[random.nextInt(FAR.length)] : random.nextInt(9) - 2;
    }
}
