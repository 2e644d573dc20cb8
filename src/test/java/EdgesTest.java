import java.nio.file.Files;
import java.nio.file.Path;
import java.util.ArrayList;
import java.util.HashMap;
import java.util.List;
import java.util.Map;
import java.util.Set;
import java.util.TreeSet;
import java.util.stream.Stream;

/**
 * Makes the runs of src/test/edges, each with the answers that are due, behind each refused call a watch of what the
 * object holds then; and holds the quoted sentences against the document, of which none may be left out.
 */
public final class EdgesTest {
    private static final Path EDGES = Path.of("src/test/edges");
    private static final Path DOCUMENT = Path.of("../shared/DOC.md");

    public static void main(String[] args) throws Exception {
        Edges edges = new Edges();
        try (Stream<Path> files = Files.list(EDGES)) {
            for (Path file : files.sorted().toList()) {
                edges.read(file);
            }
        }
        for (Edges.Run run : edges.runs) {
            checkAnswers(run);
            checkRefusals(run);
        }
        checkQuotes(edges.sentences);
        checkExceptions(edges);
        Check.end();
    }

    private static void checkAnswers(Edges.Run run) {
        Caller program = new Caller(new ElmLedger());
        Caller model = new Caller(new Model());
        int number = 0;
        for (Edges.Call call : run.calls()) {
            number++;
            String what = run + ", call " + number + ", " + call;
            Check.same(what + " is a call that counts", false, program.isSpent());
            checkAnswer(what, call.due(), program.answer(call.name(), (Object[]) call.told()));
            checkAnswer(what + ", by the model", call.due(), model.answer(call.name(), (Object[]) call.told()));
        }
        Set<String> words = findWords(run.calls());
        Check.same(run + ", later calls", Watch.watch(model, words), Watch.watch(program, words));
    }

    private static void checkAnswer(String what, String due, String got) {
        if (due == null) {
            Check.same(what + " answered " + got, false, Caller.isRefusal(got));
        } else {
            Check.same(what, due, got);
        }
    }

    /** The words that are typed for names, as many as a watch can look for. */
    private static Set<String> findWords(List<Edges.Call> calls) {
        Set<String> words = new TreeSet<>();
        StringBuilder word = new StringBuilder();
        for (Edges.Call call : calls) {
            if (call.name().equals("type") && word.length() < 8) {
                word.append(call.told()[0].charAt(0));
            } else if (Caller.isTaker(call.name())) {
                if (words.size() < 6) {
                    words.add(word.toString());
                }
                word.setLength(0);
            }
        }
        return words;
    }

    private static void checkRefusals(Edges.Run run) {
        Set<String> words = findWords(run.calls());
        List<Edges.Call> calls = run.calls();
        for (int i = 0; i < calls.size(); i++) {
            String due = calls.get(i).due();
            boolean isRepeated = i + 1 < calls.size() && calls.get(i).told() == calls.get(i + 1).told();
            if (due != null && Caller.isRefusal(due) && !isRepeated) {
                Caller program = new Caller(new ElmLedger());
                Caller model = new Caller(new Model());
                calls.subList(0, i + 1).forEach(call -> program.answer(call.name(), (Object[]) call.told()));
                findAccepted(calls.subList(0, i + 1))
                        .forEach(call -> model.answer(call.name(), (Object[]) call.told()));
                compare(run + ", behind the refused call " + (i + 1) + ", " + calls.get(i),
                        Watch.watch(model, words), Watch.watch(program, words));
            }
        }
    }

    /** The calls without those that are refused, and without what is typed for one that is. */
    private static List<Edges.Call> findAccepted(List<Edges.Call> calls) {
        List<Edges.Call> accepted = new ArrayList<>();
        List<Edges.Call> typed = new ArrayList<>();
        for (Edges.Call call : calls) {
            boolean isRefused = call.due() != null && Caller.isRefusal(call.due());
            if (call.name().equals("type") && !isRefused) {
                typed.add(call);
            } else if (Caller.isTaker(call.name())) {
                if (!isRefused) {
                    accepted.addAll(typed);
                    accepted.add(call);
                }
                typed.clear();
            } else if (!isRefused) {
                accepted.add(call);
            }
        }
        accepted.addAll(typed);
        return accepted;
    }

    /** The watch of fewer calls may go further: what both have seen is compared. */
    private static void compare(String what, List<String> due, List<String> got) {
        int shared = Math.min(due.size(), got.size());
        Check.same(what, due.subList(0, shared), got.subList(0, shared));
    }

    /** Behind "Throws" of a promise, a run must have a call of it that throws that. */
    private static void checkExceptions(Edges edges) {
        for (Edges.Sentence sentence : edges.sentences) {
            if (sentence.text().startsWith("Throws `")) {
                String due = Caller.shorten(sentence.text().split("`")[1]);
                String name = sentence.heading().split(": ")[1];
                boolean isThrown = edges.runs.stream()
                        .filter(run -> run.sentence() == sentence)
                        .flatMap(run -> run.calls().stream())
                        .anyMatch(call -> call.name().equals(name) && due.equals(call.due()));
                Check.same(sentence.place() + ", a run that throws it", true, isThrown);
            }
        }
    }

    private static void checkQuotes(List<Edges.Sentence> sentences) throws Exception {
        Map<String, String> left = readDocument();
        for (Edges.Sentence sentence : sentences) {
            String text = left.getOrDefault(sentence.heading(), "");
            int place = text.indexOf(sentence.text());
            Check.same(sentence.place() + " is a sentence of the document", true, place >= 0);
            if (place >= 0) {
                String behind = text.substring(place + sentence.text().length());
                left.put(sentence.heading(), text.substring(0, place) + "|" + behind);
            }
        }
        for (Map.Entry<String, String> section : left.entrySet()) {
            if (section.getKey().startsWith("## Terms") || section.getKey().startsWith("## Promise")) {
                String rest = section.getValue().replaceAll("[\\s|]+", " ").strip();
                Check.same("what no run is for in " + section.getKey(), "", rest);
            }
        }
    }

    /** The text of each section, without line ends, signatures, and what is said of the headings of the face. */
    private static Map<String, String> readDocument() throws Exception {
        Map<String, String> sections = new HashMap<>();
        String heading = "";
        for (String line : Files.readAllLines(DOCUMENT)) {
            if (line.startsWith("## ")) {
                heading = line;
            } else if (!line.startsWith("Ahead of the calls ")) {
                String told = line.replaceFirst("^`[^`]*`: ", "");
                sections.merge(heading, told, (one, other) -> (one + " " + other).strip());
            }
        }
        return sections;
    }
}
