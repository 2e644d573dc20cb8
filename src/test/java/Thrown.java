import java.nio.file.Files;
import java.nio.file.Path;
import java.util.HashSet;
import java.util.Set;
import java.util.regex.Matcher;
import java.util.regex.Pattern;

/** Tells an exception that the program throws by a throw statement from one that the machine or the library throws. */
final class Thrown {
    private static final Set<String> TEXTS = readTexts();

    private Thrown() {
    }

    private static Set<String> readTexts() {
        try {
            Set<String> texts = new HashSet<>();
            Matcher matcher = Pattern.compile("throw new \\w+\\(\"([^\"]*)\"\\)")
                    .matcher(Files.readString(Path.of("src/main/java/ElmLedger.java")));
            while (matcher.find()) {
                texts.add(matcher.group(1));
            }
            return texts;
        } catch (java.io.IOException e) {
            throw new IllegalStateException(e);
        }
    }

    /** Only a method of the face throws, itself, and with a text that is written there. */
    static boolean isOwn(Throwable thrown, String call) {
        StackTraceElement[] places = thrown.getStackTrace();
        return thrown.getMessage() != null && TEXTS.contains(thrown.getMessage()) && places.length > 0
                && places[0].getClassName().equals("ElmLedger") && places[0].getMethodName().equals(call);
    }
}
