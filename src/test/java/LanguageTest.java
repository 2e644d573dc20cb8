import java.nio.file.Files;
import java.nio.file.Path;
import java.util.List;

/**
 * The program keeps the rules of ../shared/LANGUAGE.md, as Rules reads them; and Rules sees it where a program leaves
 * them: each rule is broken once or more in a copy of the program's text.
 */
public final class LanguageTest {
    private static final Path PROGRAM = Path.of("src/main/java/ElmLedger.java");
    private static final String MEMBERS = "    // ---- drafts of programs\n";
    private static final String LINE = "        draft.fieldCount = 0;\n";

    private static String text;

    public static void main(String[] args) throws Exception {
        text = Files.readString(PROGRAM);
        Check.same("faults of the program", List.of(), Rules.findFaults(text));
        Check.same("a place for members", true, text.contains(MEMBERS) && text.contains(LINE));
        Check.same("a harmless member", List.of(), Rules.findFaults(withMember("private int other;")));
        breakFace();
        breakTypes();
        breakLibrary();
        breakStatics();
        breakExceptions();
        breakCalls();
        breakLoops();
        breakSizes();
        Check.end();
    }

    private static String withMember(String member) {
        return text.replace(MEMBERS, member + "\n" + MEMBERS);
    }

    private static void breaks(int rule, String what, String program) throws Exception {
        List<String> faults = Rules.findFaults(program);
        boolean isSeen = faults.stream().anyMatch(fault -> fault.startsWith("rule " + rule + ","));
        Check.same("rule " + rule + " is broken by " + what + ", seen are " + faults, true, isSeen);
    }

    private static void breaksAsMember(int rule, String member) throws Exception {
        breaks(rule, member, withMember(member));
    }

    private static void breaksAsLine(int rule, String line) throws Exception {
        breaks(rule, line, text.replace(LINE, LINE + line + "\n"));
    }

    private static void breakFace() throws Exception {
        breaksAsMember(1, "int seen;");
        breaksAsMember(1, "protected int seen() { return 0; }");
        breaksAsMember(1, "int seen() { return 0; }");
        breaksAsMember(1, "private int type(int one) { return one; }");
        breaksAsMember(1, "public static int seen() { return 0; }");
        breaks(1, "a class that is not final", text.replace("public final class", "public class"));
        breaksAsMember(2, "private final class Deep { }");
        breaksAsMember(2, "static final class Seen { }");
        breaksAsMember(2, "private enum One { A }");
        breaksAsMember(2, "private record One(int a) { }");
        breaksAsLine(2, "Runnable one = () -> { };");
        breaksAsLine(2, "Runnable one = drawing::begin;");
        breaksAsLine(2, "new Object() { };");
    }

    private static void breakTypes() throws Exception {
        breaksAsMember(3, "private Object one;");
        breaksAsMember(3, "private Object one() { return null; }");
        breaksAsMember(3, "private Integer one;");
        breaksAsMember(3, "private String[] one;");
        breaksAsMember(3, "private int[][][] one;");
        breaksAsMember(3, "private ArrayList<String> one;");
        breaksAsMember(3, "private ArrayList<int[]> one;");
        breaksAsMember(3, "private java.util.List<Name> one;");
        breaksAsMember(3, "private double one(double a) { return a % (double) 2; }");
        breaksAsMember(3, "private char one() { return '\u0100'; }");
    }

    private static void breakLibrary() throws Exception {
        breaks(4, "an import", "import java.util.HashMap;\n" + text);
        breaksAsLine(4, "had = Integer.parseInt(written);");
        breaksAsLine(4, "had = Math.addExact(had, 1);");
        breaksAsLine(4, "had = Integer.MAX_VALUE;");
        breaksAsLine(4, "had = written.hashCode();");
        breaksAsLine(4, "had = draft.hashCode();");
        breaksAsLine(4, "had = (int) System.nanoTime();");
        breaksAsLine(4, "System.exit(1);");
        breaksAsLine(4, "written = \"\u00e9\";");
        breaksAsLine(4, "written = String.valueOf(had);");
    }

    private static void breakStatics() throws Exception {
        breaksAsMember(5, "private static int one;");
        breaksAsMember(5, "private static int one = 1;");
        breaksAsMember(5, "private static final int[] ONE = new int[1];");
        breaksAsMember(5, "private static final StringBuilder ONE = new StringBuilder();");
        breaksAsMember(5, "static { }");
        breaksAsMember(5, "{ published = 0; }");
    }

    private static void breakExceptions() throws Exception {
        breaksAsLine(6, "try { draft.fieldCount = 0; } catch (IllegalStateException e) { had = 1; }");
        breaksAsLine(6, "if (had > 9) { throw new IllegalStateException(\"one\"); }");
        breaksAsLine(6, "if (had > 9) { throw new RuntimeException(\"one\"); }");
        breaksAsLine(6, "assert had > 0;");
        breaksAsLine(6, "synchronized (draft) { had = 1; }");
        breaksAsLine(6, "had = written == \"\" ? 1 : 0;");
        breaksAsLine(6, "had = (int) (Integer) had;");
        breaksAsMember(6, "private void one() { throw new IllegalStateException(\"one\"); }");
        breaksAsMember(6, "private synchronized void one() { }");
        breaks(6, "an exception that is told and not thrown", text.replace("public int dropFields()",
                "public int dropFields() throws IllegalStateException"));
        breaks(6, "a throw without a text", text.replace("(\"all blocks are there\")", "()"));
        breaks(6, "a throw with a made text", text.replace("(\"all blocks are there\")", "(written)"));
        breaksAsLine(7, "had = had / published;");
        breaksAsLine(7, "had = had % (published + 1);");
        breaksAsMember(7, "private void one(Name[] names, Name name) { names[0] = name; }");
    }

    private static void breakCalls() throws Exception {
        breaksAsMember(8, "private int ping(int a) { return pong(a); } private int pong(int a) { return ping(a); }");
        breaksAsMember(8, "private int ping(int a) { return ping(a); }");
        StringBuilder chain = new StringBuilder("private int last0() { return 0; }");
        for (int i = 1; i < 8; i++) {
            chain.append("private int last").append(i).append("() { return last").append(i - 1).append("(); }");
        }
        Check.same("eight deep", List.of(), Rules.findFaults(withMember(chain.toString())));
        breaksAsMember(11, chain + "private int last() { return last7(); }");
    }

    private static void breakLoops() throws Exception {
        breaksAsLine(9, "for (;;) { break; }");
        breaksAsLine(9, "while (had > 0) { had = published; }");
        breaksAsLine(9, "while (had < 3) { had++; had = 0; }");
        breaksAsLine(9, "for (int i = 0; i < 3; i--) { had = i; }");
        breaksAsLine(9, "for (int i = 0; i != 3; i++) { had = i; }");
        breaksAsLine(9, "for (int i = 0; i < 3; i++) { i--; }");
        breaksAsLine(9, "for (int i = 0; i < had; i++) { had++; }");
        breaksAsLine(9, "for (int i = 0; i < solver.packs.size(); i++) { solver.packs.add(new Pack()); }");
        breaksAsLine(10, "do { had++; } while (had < 3);");
        breaksAsLine(10, "for (char one : written.toCharArray()) { had++; }");
        breaksAsLine(10, "written = written + had;");
        breaksAsLine(10, "written += \"one\";");
        breaksAsLine(10, "switch (written) { default: had = 1; }");
    }

    private static void breakSizes() throws Exception {
        breaksAsMember(11, "private void one(int a, int b, int c, int d, int e, int f, int g, int h) { }");
        breaksAsMember(11, "private void one() {\n" + "        published = 0;\n".repeat(60) + "}");
        breaksAsMember(11, "private static final class One { } private static final class Two { }");
        breaksAsMember(11, "private int a, b, c, d, e, f, g, h, i, j, k, l, m, n, o, p, q, r, s, t, u;");
    }
}
