import java.lang.reflect.InvocationTargetException;
import java.lang.reflect.Method;
import java.lang.reflect.Modifier;
import java.util.HashMap;
import java.util.Map;

/** Calls an object, the program or the model, by the names of the face, and writes its answers as texts. */
final class Caller {
    static final int MOST_CALLS = 512;
    private static final Map<String, Class<?>[]> FACE = new HashMap<>();

    static {
        for (Method method : ElmLedger.class.getDeclaredMethods()) {
            if (Modifier.isPublic(method.getModifiers())) {
                FACE.put(method.getName(), method.getParameterTypes());
            }
        }
    }

    private final Object object;
    private final StringBuilder text = new StringBuilder();
    private int calls;

    Caller(Object object) {
        this.object = object;
    }

    static boolean isCall(String name) {
        return FACE.containsKey(name);
    }

    static boolean isRefusal(String answer) {
        return answer.startsWith("!");
    }

    /** Whether the call takes the typed text. */
    static boolean isTaker(String name) {
        return name.equals("expose") || name.equals("hide") || name.equals("advise");
    }

    /** The answers behind the last call for which the document stands are free. */
    boolean isSpent() {
        return calls >= MOST_CALLS;
    }

    String typedText() {
        return text.toString();
    }

    String answer(String name, Object... told) {
        calls++;
        String answer = call(name, told);
        if (isTaker(name)) {
            text.setLength(0);
        } else if (name.equals("type") && !isRefusal(answer)) {
            text.append(told[0]);
        }
        return answer;
    }

    private String call(String name, Object... told) {
        Class<?>[] kinds = FACE.get(name);
        Object[] arguments = new Object[kinds.length];
        for (int i = 0; i < kinds.length; i++) {
            arguments[i] = read(kinds[i], told[i].toString());
        }
        try {
            return object.getClass().getMethod(name, kinds).invoke(object, arguments).toString();
        } catch (InvocationTargetException e) {
            if (object instanceof ElmLedger && !Thrown.isOwn(e.getCause(), name)) {
                return "!machine " + e.getCause();
            }
            return shorten(e.getCause().getClass().getName().replaceFirst("^java\\.(lang|util)\\.", ""));
        } catch (ReflectiveOperationException e) {
            throw new IllegalArgumentException(name, e);
        }
    }

    private static Object read(Class<?> kind, String text) {
        if (kind == boolean.class) {
            return Boolean.valueOf(text);
        }
        if (kind == char.class) {
            return text.length() == 1 ? text.charAt(0) : (char) Integer.parseInt(text.substring(1));
        }
        return switch (text) {
            case "MAX" -> Integer.MAX_VALUE;
            case "MIN" -> Integer.MIN_VALUE;
            default -> Integer.parseInt(text);
        };
    }

    /** How the edges write an exception. */
    static String shorten(String exception) {
        return switch (exception) {
            case "IllegalArgumentException" -> "!argument";
            case "IllegalStateException" -> "!state";
            case "IndexOutOfBoundsException" -> "!index";
            case "UnsupportedOperationException" -> "!unsupported";
            case "ArithmeticException" -> "!arithmetic";
            case "NoSuchElementException" -> "!element";
            default -> "!" + exception;
        };
    }
}
