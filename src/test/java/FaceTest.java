import java.lang.reflect.Constructor;
import java.lang.reflect.Method;
import java.lang.reflect.Modifier;
import java.nio.file.Files;
import java.nio.file.Path;
import java.util.ArrayList;
import java.util.Arrays;
import java.util.List;
import java.util.TreeSet;
import java.util.regex.Matcher;
import java.util.regex.Pattern;

/** The public face is the one that the document writes down, with its exceptions, and nothing more. */
public final class FaceTest {
    public static void main(String[] args) throws Exception {
        Class<?> face = ElmLedger.class;
        Check.same("modifiers", Modifier.PUBLIC | Modifier.FINAL, face.getModifiers());

        List<String> told = readFace();
        List<String> built = new ArrayList<>();
        TreeSet<String> publicNames = new TreeSet<>();
        for (Method method : face.getDeclaredMethods()) {
            if (!Modifier.isPrivate(method.getModifiers())) {
                built.add(write(method));
                publicNames.add(method.getName());
            }
        }
        Check.same("methods", new TreeSet<>(told), new TreeSet<>(built));
        Check.same("number of methods", 41, built.size());

        Constructor<?>[] constructors = face.getDeclaredConstructors();
        Check.same("constructors", 1, constructors.length);
        Check.same("constructor", "public ElmLedger()", constructors[0].toString());

        checkHidden(face, publicNames);
        for (Class<?> inside : face.getDeclaredClasses()) {
            Check.same(inside + " is static", true, Modifier.isStatic(inside.getModifiers()));
            Check.same(inside + " is hidden", false, Modifier.isPublic(inside.getModifiers()));
            checkHidden(inside, publicNames);
        }
        Check.end();
    }

    private static void checkHidden(Class<?> type, TreeSet<String> publicNames) {
        Arrays.stream(type.getDeclaredFields()).forEach(field ->
                Check.same(field + " is private", true, Modifier.isPrivate(field.getModifiers())));
        Arrays.stream(type.getDeclaredFields())
                .filter(field -> Modifier.isStatic(field.getModifiers()))
                .forEach(field -> Check.same(field + " is final", true, Modifier.isFinal(field.getModifiers())));
        Arrays.stream(type.getDeclaredMethods())
                .filter(method -> Modifier.isPrivate(method.getModifiers()))
                .forEach(method -> Check.same(method + " has a name of its own", false,
                        publicNames.contains(method.getName())));
    }

    private static String write(Method method) {
        StringBuilder text = new StringBuilder(method.getReturnType().getSimpleName());
        text.append(' ').append(method.getName()).append('(');
        String between = "";
        for (Class<?> parameter : method.getParameterTypes()) {
            text.append(between).append(parameter.getSimpleName());
            between = ",";
        }
        text.append(')');
        for (Class<?> exception : method.getExceptionTypes()) {
            text.append(' ').append(exception.getSimpleName());
        }
        return text.toString();
    }

    private static List<String> readFace() throws Exception {
        List<String> told = new ArrayList<>();
        Pattern line = Pattern.compile("    public (\\w+) (\\w+)\\((.*?)\\)(?: throws (.*))?;");
        for (String text : Files.readAllLines(Path.of("../shared/DOC.md"))) {
            Matcher matcher = line.matcher(text);
            if (matcher.matches()) {
                String parameters = matcher.group(3).replaceAll(" \\w+(,|$)", "$1").replace(" ", "");
                String exceptions = matcher.group(4) == null ? "" : " " + matcher.group(4).replace(",", "");
                told.add(matcher.group(1) + " " + matcher.group(2) + "(" + parameters + ")" + exceptions);
            }
        }
        return told;
    }
}
