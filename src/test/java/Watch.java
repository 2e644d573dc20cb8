import java.util.ArrayList;
import java.util.List;
import java.util.Set;

/**
 * Makes later calls that show what an object holds, as far as answers can show it, and writes them down with their
 * answers. Two objects that hold the same answer the same.
 */
final class Watch {
    private final Caller caller;
    private final Set<String> words;
    private final List<String> seen = new ArrayList<>();

    private Watch(Caller caller, Set<String> words) {
        this.caller = caller;
        this.words = words;
    }

    static List<String> watch(Caller caller, Set<String> words) {
        Watch watch = new Watch(caller, words);
        watch.readAll();
        watch.readText();
        watch.travelThrough();
        watch.drawTwice();
        watch.emptyRegistry();
        watch.goOn();
        watch.useDraft();
        return watch.seen;
    }

    private String see(String name, Object... told) {
        if (caller.isSpent()) {
            return "!spent";
        }
        String answer = caller.answer(name, told);
        seen.add(name + List.of(told) + " = " + answer);
        return answer;
    }

    private static boolean isNumber(String answer) {
        return answer.matches("-?\\d+");
    }

    private void readAll() {
        for (String name : List.of("pending", "logged", "skipped", "majorShare", "meanCost", "isCurrent",
                "costByTrying", "solve", "blame")) {
            see(name);
        }
        readFields();
        see("fieldByLog", 0);
        readScreen();
        for (int i = 0; !Caller.isRefusal(see("writtenAt", i)); i++) {
            continue;
        }
        for (int i = 0; !Caller.isRefusal(see("judge", i)); i++) {
            see("chosen", i);
        }
        for (int i = 0; i < 8 && !Caller.isRefusal(see("areAlike", i, 0)); i++) {
            see("isGeneral", i, 1);
        }
    }

    private void readFields() {
        for (int i = 0; !Caller.isRefusal(see("field", i)); i++) {
            continue;
        }
    }

    private void readScreen() {
        see("items");
        for (int i = 0; i < 14 && !Caller.isRefusal(see("keyAt", i)); i++) {
            see("textAt", i);
        }
    }

    /** The text is shown by the name that it becomes: it can be hidden. */
    private void readText() {
        see("type", 'q');
        String text = caller.typedText();
        see("expose", 0, 0);
        for (char letter : text.toCharArray()) {
            see("type", letter);
        }
        see("hide", 0);
        see("type", 'q');
    }

    private void travelThrough() {
        String logged = see("logged");
        String before = see("travel", logged);
        if (Caller.isRefusal(before)) {
            return;
        }
        int last = Integer.parseInt(logged);
        for (int i = 0; i <= last; i += last > 8 ? Math.max(1, last / 4) : 1) {
            see("travel", i);
            readFields();
        }
        see("travel", before);
    }

    private void drawTwice() {
        see("draw");
        see("skipped");
        readScreen();
        see("draw");
        see("skipped");
        see("meanCost");
    }

    private void emptyRegistry() {
        see("dropNeeds", -1);
        for (int i = 0; Caller.isRefusal(see("judge", i)) ? false : i < 4; i++) {
            String version = see("publish", i);
            if (isNumber(version)) {
                see("need", -1, i, version, Integer.parseInt(version) + 1);
                see("solve");
                for (int j = 0; j < 4; j++) {
                    see("chosen", j);
                }
                see("dropNeeds", -1);
            }
            hideWords(i);
            see("dropNeeds", i);
        }
        see("addPackage");
        see("addType", 'b', 5, 0);
        see("addType", 'p', 0, 0);
        see("majorShare");
    }

    private void hideWords(int number) {
        for (String word : words) {
            for (char letter : word.toCharArray()) {
                see("type", letter);
            }
            see("hide", number);
        }
    }

    private void goOn() {
        for (int i = 0; i < 3; i++) {
            see("update", 1);
            readFields();
            see("pending");
        }
        sendEachKind();
        see("tick");
        see("update", 20);
        readFields();
        see("addBlock", 'c', 0, 7, true);
        see("addBlock", 'r', 0, 0, false);
        see("subscribe", 0, 0, 1);
        see("draw");
        see("tick");
        see("update", 3);
        readFields();
    }

    private void sendEachKind() {
        for (int i = 0; i < 5; i++) {
            see("send", i, 3);
            see("update", 1);
            readFields();
        }
        see("pending");
    }

    private void useDraft() {
        see("load");
        readFields();
        see("start");
        readFields();
        sendEachKind();
        see("tick");
        see("update", 20);
        readFields();
        for (int i = 0; i < 5; i++) {
            see("addStep", i, 's', 0, 0);
        }
        see("dropFields");
    }
}
