import java.lang.reflect.Method;
import java.lang.reflect.Modifier;
import java.nio.file.Files;
import java.nio.file.Path;
import java.util.ArrayList;
import java.util.HashMap;
import java.util.HashSet;
import java.util.List;
import java.util.Map;
import java.util.Set;
import java.util.regex.Matcher;
import java.util.regex.Pattern;

/** What README.md tells holds: its examples answer as their comments say, and its exceptions are those of the face. */
public final class ReadmeTest {
    private static final Pattern EXAMPLE = Pattern.compile("    x\\.(\\w+)\\((.*)\\); +// (throws )?(\\S+)");
    private static final Pattern EXCEPTION = Pattern.compile("`(\\w+Exception)`");

    public static void main(String[] args) throws Exception {
        List<String> lines = Files.readAllLines(Path.of("README.md"));
        runExamples(lines);
        checkExceptions(lines);
        Check.end();
    }

    private static void runExamples(List<String> lines) {
        Caller caller = null;
        Set<String> called = new HashSet<>();
        for (String line : lines) {
            Matcher matcher = EXAMPLE.matcher(line);
            if (line.equals("    ElmLedger x = new ElmLedger();")) {
                caller = new Caller(new ElmLedger());
            } else if (matcher.matches()) {
                String due = matcher.group(3) == null ? matcher.group(4) : Caller.shorten(matcher.group(4));
                Check.same(line, due, caller.answer(matcher.group(1), readArguments(matcher.group(2))));
                called.add(matcher.group(1));
            } else {
                Check.same("a line of an example: " + line, false, line.startsWith("    x."));
            }
        }
        Set<String> rare = Set.of("dropFields", "fieldByLog");
        for (Method method : methods()) {
            Check.same("an example of " + method.getName(), true,
                    called.contains(method.getName()) || rare.contains(method.getName()));
        }
    }

    private static Object[] readArguments(String text) {
        return text.isEmpty() ? new Object[0] : text.replace("'", "").split(", ");
    }

    private static void checkExceptions(List<String> lines) {
        Map<String, List<String>> told = new HashMap<>();
        for (String line : lines) {
            String[] cells = line.split(" \\| ");
            if (line.startsWith("| `") && cells.length == 2) {
                for (String name : cells[0].substring(2).replace("`", "").split(", ")) {
                    told.put(name, EXCEPTION.matcher(cells[1]).results().map(one -> one.group(1)).toList());
                }
            }
        }
        for (Method method : methods()) {
            List<String> due = new ArrayList<>();
            for (Class<?> exception : method.getExceptionTypes()) {
                due.add(exception.getSimpleName());
            }
            List<String> got = told.remove(method.getName());
            Check.same("exceptions of " + method.getName(), due, got == null ? List.of() : got);
        }
        Check.same("calls that are not there", Map.of(), told);
    }

    private static List<Method> methods() {
        List<Method> methods = new ArrayList<>();
        for (Method method : ElmLedger.class.getDeclaredMethods()) {
            if (Modifier.isPublic(method.getModifiers())) {
                methods.add(method);
            }
        }
        return methods;
    }
}
