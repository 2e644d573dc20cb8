import java.nio.file.Files;
import java.nio.file.Path;
import java.util.List;
import java.util.regex.Matcher;
import java.util.regex.Pattern;

/** The rules of ../shared/LANGUAGE.md that can be seen by reading the lines of the program. */
public final class LanguageTest {
    private static final Path PROGRAM = Path.of("src/main/java/ElmLedger.java");
    private static final String[] RULED_OUT = {
        "\\bcatch\\b", "\\btry\\b", "\\bfinally\\b", "\\bassert\\b", "\\bsynchronized\\b", "->", "::", "\\bvar\\b",
        "\\bObject\\b", "\\bhashCode\\b", "\\brecord\\b", "Exact\\(", "static \\{", "\\bMap\\b", "\\bSystem\\.(?!arraycopy)",
        "\\bString\\[", "List<String>", "\\+ \"", "\" \\+", "\\bprotected\\b", "@", "\\bgetClass\\b", "^package ",
        "\\bArrays\\.(?!copyOf|copyOfRange|fill)", "\\bMath\\.(?!min|max|abs|floorDiv|floorMod)", "\\byield\\b",
    };

    public static void main(String[] args) throws Exception {
        List<String> lines = Files.readAllLines(PROGRAM);
        int classes = 0;
        int methodLines = 0;
        for (String line : lines) {
            String code = line.replaceAll("^\\s*(/\\*\\*|\\*|//).*", "");
            checkLine(code);
            if (code.matches(".*\\bclass \\w+ \\{")) {
                classes++;
            }
            methodLines = code.matches("    (    )?\\S.*[^;]") && !code.contains("}") ? 0 : methodLines + 1;
            Check.same("a short method at: " + line, true, methodLines <= 60);
            Check.same("plain signs: " + line, true, line.chars().allMatch(sign -> sign >= 32 && sign < 127));
        }
        Check.same("classes", true, classes <= 12);
        checkThrows(String.join("\n", lines));
        Check.end();
    }

    private static void checkLine(String code) {
        for (String rule : RULED_OUT) {
            Check.same("no " + rule + " in: " + code, false, Pattern.compile(rule).matcher(code).find());
        }
        if (code.startsWith("import ")) {
            Check.same(code, true, List.of("import java.util.ArrayList;", "import java.util.NoSuchElementException;")
                    .contains(code));
        }
    }

    private static void checkThrows(String text) {
        Matcher matcher = Pattern.compile("throw ([^;]*);").matcher(text);
        while (matcher.find()) {
            Check.same(matcher.group(), true, matcher.group(1).matches("new (IllegalStateException"
                    + "|IllegalArgumentException|IndexOutOfBoundsException|ArithmeticException"
                    + "|UnsupportedOperationException|NoSuchElementException)\\(\"[^\"]*\"\\)"));
        }
    }
}
