import java.nio.file.Files;
import java.nio.file.Path;
import java.util.ArrayList;
import java.util.HashMap;
import java.util.List;
import java.util.Map;
import java.util.regex.Matcher;
import java.util.regex.Pattern;

/** Reads the files of src/test/edges; their form stands in README.md. */
final class Edges {
    /** A call with the answer that is due, or with none if any answer but an exception is. */
    record Call(String name, String[] told, String due) {
        @Override
        public String toString() {
            return name + " " + String.join(" ", told);
        }
    }

    record Run(String place, String title, Sentence sentence, List<Call> calls) {
        @Override
        public String toString() {
            return place + " (" + title + ")";
        }
    }

    record Sentence(String heading, String text, String place) {
    }

    private static final Pattern CALL =
            Pattern.compile("(\\w+)((?: [^\\s*=!]+)*)(?: \\*(\\d+))?(?: = (\\S+)| (!\\w+))?");

    final List<Sentence> sentences = new ArrayList<>();
    final List<Run> runs = new ArrayList<>();
    private final Map<String, List<Call>> named = new HashMap<>();
    private String heading = "";
    private int runsOfSentence = 1;

    void read(Path file) throws Exception {
        List<String> lines = Files.readAllLines(file);
        named.clear();
        for (int i = 0; i < lines.size(); i++) {
            try {
                readLine(lines.get(i), file.getFileName() + ":" + (i + 1));
            } catch (RuntimeException e) {
                throw new IllegalArgumentException(file + ":" + (i + 1), e);
            }
        }
        endSentence();
    }

    private void readLine(String line, String place) {
        if (line.startsWith("## ")) {
            endSentence();
            heading = line;
        } else if (line.startsWith("> ")) {
            endSentence();
            sentences.add(new Sentence(heading, line.substring(2), place));
            runsOfSentence = 0;
        } else if (line.startsWith("let ")) {
            String[] halves = line.substring(4).split(" = ", 2);
            named.put(halves[0], readCalls(halves[1]));
        } else if (line.startsWith("- ")) {
            runs.add(new Run(place, line.substring(2), sentences.get(sentences.size() - 1), new ArrayList<>()));
            runsOfSentence++;
        } else if (line.startsWith("  ")) {
            runs.get(runs.size() - 1).calls.addAll(readCalls(line));
        } else if (!line.isBlank() && !line.startsWith("# ")) {
            throw new IllegalArgumentException("what is this line? " + line);
        }
    }

    private void endSentence() {
        if (runsOfSentence == 0) {
            throw new IllegalArgumentException("a sentence without a run is ahead of this");
        }
    }

    private List<Call> readCalls(String line) {
        List<Call> calls = new ArrayList<>();
        for (String part : line.split(";")) {
            String text = part.strip();
            if (text.startsWith("@")) {
                calls.addAll(named.get(text.substring(1)));
            } else if (text.startsWith("word ")) {
                for (char letter : text.substring(5).toCharArray()) {
                    calls.add(new Call("type", new String[] {String.valueOf(letter)}, null));
                }
            } else if (!text.isEmpty()) {
                readCall(text, calls);
            }
        }
        return calls;
    }

    private static void readCall(String text, List<Call> calls) {
        Matcher matcher = CALL.matcher(text);
        if (!matcher.matches() || !Caller.isCall(matcher.group(1))) {
            throw new IllegalArgumentException("what is this call? " + text);
        }
        String arguments = matcher.group(2).strip();
        String[] told = arguments.isEmpty() ? new String[0] : arguments.split(" ");
        String due = matcher.group(5) != null ? matcher.group(5) : matcher.group(4);
        int times = matcher.group(3) == null ? 1 : Integer.parseInt(matcher.group(3));
        if (due != null && due.contains("..")) {
            String[] ends = due.split("\\.\\.");
            for (int i = Integer.parseInt(ends[0]); i <= Integer.parseInt(ends[1]); i++) {
                calls.add(new Call(matcher.group(1), told, String.valueOf(i)));
            }
            return;
        }
        for (int i = 0; i < times; i++) {
            calls.add(new Call(matcher.group(1), told, due));
        }
    }
}
