import java.lang.reflect.InvocationTargetException;
import java.lang.reflect.Method;
import java.util.ArrayList;
import java.util.Arrays;
import java.util.Comparator;
import java.util.List;
import java.util.Random;

/** Random runs of 512 calls, the same ones each time, answered as the model answers them. */
public final class RandomRunsTest {
    private static final int CALLS = 512;
    private static final int RUNS = 1200;
    private static final String[] THEMES = {
        "type addField addStep dropFields start send update tick subscribe field fieldByLog pending travel change "
                + "load logged",
        "addField addStep start send update addBlock draw costByTrying items keyAt textAt skipped isCurrent travel "
                + "meanCost",
        "addType areAlike isGeneral type expose judge publish hide",
        "type addType addPackage expose hide need dropNeeds publish judge solve chosen blame majorShare",
        "type addType addPackage expose publish advise writtenAt hide",
    };
    private static final int[] STRANGE = {-1, -2, 4, 5, 6, 7, 8, 9, 10, 20, 21, 36, 40, 41, 60, 61, 100, 999999,
        1000000, Integer.MAX_VALUE, Integer.MIN_VALUE, Integer.MAX_VALUE - 1};

    private final Random random;
    private final int theme;
    private final ElmLedger program = new ElmLedger();
    private final Model model = new Model();
    private final List<String> told = new ArrayList<>();

    private RandomRunsTest(int seed) {
        random = new Random(seed);
        theme = seed % (THEMES.length + 1);
    }

    public static void main(String[] args) throws Exception {
        List<Method> methods = new ArrayList<>(Arrays.asList(ElmLedger.class.getDeclaredMethods()));
        methods.removeIf(method -> !java.lang.reflect.Modifier.isPublic(method.getModifiers()));
        methods.sort(Comparator.comparing(Method::getName));
        for (int seed = 0; seed < RUNS; seed++) {
            new RandomRunsTest(seed).run(methods);
        }
        Check.end();
    }

    private void run(List<Method> methods) throws Exception {
        List<Method> own = new ArrayList<>(methods);
        if (theme < THEMES.length) {
            List<String> names = List.of(THEMES[theme].split(" "));
            own.removeIf(method -> !names.contains(method.getName()));
        }
        prepare(methods);
        while (told.size() < CALLS) {
            Method method = own.get(random.nextInt(own.size()));
            if (isRare(method.getName()) && random.nextInt(6) > 0) {
                continue;
            }
            if (!call(method, arguments(method))) {
                return;
            }
        }
    }

    /** Without this, most runs would stay near their beginning. */
    private void prepare(List<Method> methods) throws Exception {
        for (Method method : methods) {
            String name = method.getName();
            int times = switch (name) {
                case "addField" -> random.nextInt(5);
                case "addStep" -> theme < 2 ? 12 : 3;
                case "addBlock" -> theme == 1 ? 4 : 1;
                case "addPackage" -> random.nextInt(5);
                case "addType" -> 4;
                case "publish" -> theme == 3 ? 8 : 1;
                case "start" -> random.nextInt(4) > 0 ? 1 : 0;
                default -> 0;
            };
            for (int i = 0; i < times; i++) {
                call(method, arguments(method));
            }
        }
    }

    private static boolean isRare(String name) {
        return List.of("start", "dropFields", "addBlock", "subscribe", "dropNeeds", "load", "publish").contains(name);
    }

    private boolean call(Method method, Object[] arguments) throws Exception {
        String line = method.getName() + Arrays.toString(arguments);
        told.add(line);
        Object got = answer(program, method, arguments);
        Object due = answer(model, Model.class.getMethod(method.getName(), method.getParameterTypes()), arguments);
        if (!due.equals(got)) {
            System.out.println(told);
        }
        Check.same("call " + told.size() + ", " + line, due, got);
        return due.equals(got);
    }

    private static Object answer(Object object, Method method, Object[] arguments) throws Exception {
        try {
            return method.invoke(object, arguments);
        } catch (InvocationTargetException e) {
            if (object instanceof ElmLedger && !Thrown.isOwn(e.getCause(), method.getName())) {
                return e.getCause();
            }
            return e.getCause().getClass();
        }
    }

    private Object[] arguments(Method method) {
        Class<?>[] kinds = method.getParameterTypes();
        Object[] arguments = new Object[kinds.length];
        for (int i = 0; i < kinds.length; i++) {
            if (kinds[i] == boolean.class) {
                arguments[i] = random.nextBoolean();
            } else if (kinds[i] == char.class) {
                arguments[i] = letter(method.getName());
            } else {
                arguments[i] = number(method.getName(), i);
            }
        }
        if (method.getName().equals("need") && random.nextInt(20) > 0) {
            arguments[0] = random.nextInt(model.countPackages() + 1) - 1;
            arguments[3] = (Integer) arguments[2] + 1 + random.nextInt(random.nextBoolean() ? 30000 : 3);
        }
        return arguments;
    }

    private char letter(String name) {
        if (random.nextInt(40) == 0) {
            return (char) random.nextInt(256);
        }
        String letters = switch (name) {
            case "addStep" -> "sallllccckkeex".substring(0, random.nextInt(6) == 0 ? 14 : 13);
            case "addBlock" -> "cfrrr";
            case "addType" -> "vvbffppp";
            default -> theme == 4 ? "aabbcd" : "abc";
        };
        return letters.charAt(random.nextInt(letters.length()));
    }

    private int number(String name, int index) {
        if (random.nextInt(30) == 0) {
            return STRANGE[random.nextInt(STRANGE.length)];
        }
        int types = Math.max(model.countTypes(), 1);
        int packages = Math.max(model.countPackages(), 1);
        return switch (name) {
            case "addType" -> random.nextInt(random.nextInt(3) == 0 ? 6 : types);
            case "areAlike", "isGeneral" -> random.nextInt(types);
            case "expose" -> random.nextInt(index == 0 ? packages : types);
            case "hide", "dropNeeds", "publish", "judge", "chosen", "advise" -> random.nextInt(packages);
            case "need" -> index < 2 ? random.nextInt(packages) : version();
            case "update" -> 1 + random.nextInt(random.nextBoolean() ? 3 : 20);
            case "travel", "change" -> index > 0 ? random.nextInt(5) : random.nextInt(model.logged() + 1);
            case "subscribe" -> random.nextInt(4);
            case "keyAt", "textAt" -> random.nextInt(model.items() + 1);
            case "writtenAt" -> random.nextInt(4);
            default -> random.nextInt(random.nextInt(6) == 0 ? 9 : 5);
        };
    }

    private int version() {
        int[] parts = {0, 0, 9000, 10000, 10000, 10001, 10100, 10101, 20000, 30000};
        return parts[random.nextInt(parts.length)] + random.nextInt(2);
    }
}
