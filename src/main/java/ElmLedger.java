import java.util.ArrayList;
import java.util.NoSuchElementException;

/** A workshop of screens: what each call promises stands in ../shared/DOC.md. */
public final class ElmLedger {
    private static final int NONE = -1;
    private static final int MOST_LETTERS = 8;
    private static final int MOST_FIELDS = 4;
    private static final int KINDS = 5;
    private static final int MOST_STEPS = 8;
    private static final int MOST_LEFT_OUT = 7;
    private static final int MOST_QUEUED = 40;
    private static final int MOST_LOGGED = 60;
    private static final int MOST_UPDATES = 20;
    private static final int MOST_SUBSCRIPTIONS = 4;
    private static final int GREATEST_SPAN = 9;
    private static final int PENDING_EFFECT = 100;
    private static final int MOST_BLOCKS = 6;
    private static final int MOST_REPEATED = 6;
    private static final int MOST_ITEMS = MOST_BLOCKS * MOST_REPEATED;
    private static final int KEYS_OF_BLOCK = 10;
    private static final int MOST_TRIED = 12;
    private static final int MOST_TYPES = 40;
    private static final int MOST_SIGNS = 6;
    private static final int MOST_LEAVES = 40;
    private static final int MOST_PARTS = 2 * MOST_LEAVES;
    private static final int MOST_PACKAGES = 4;
    private static final int MOST_NAMES = 6;
    private static final int MOST_NEEDS = 3;
    private static final int MOST_APPLICATION_NEEDS = 4;
    private static final int APPLICATION = -1;
    private static final int MOST_VERSIONS = 8;
    private static final int GREATEST_VERSION = 999999;
    private static final int FIRST_VERSION = 10000;
    private static final int MAJOR = 10000;
    private static final int MINOR = 100;

    private final StringBuilder typed = new StringBuilder();
    private final Program draft = new Program();
    private final Running running = new Running();
    private final Drawing drawing = new Drawing();
    private final Types types = new Types();
    private final Solver solver = new Solver();
    private final int[][] distances = new int[MOST_LETTERS + 1][MOST_LETTERS + 1];
    private String written = "";
    private int published;
    private int majors;

    public ElmLedger() {
    }

    // ---- drafts of programs

    public int type(char letter) throws IllegalArgumentException, IllegalStateException {
        if (letter < 'a' || letter > 'z') {
            throw new IllegalArgumentException("no letter from a to z");
        }
        if (typed.length() >= MOST_LETTERS) {
            throw new IllegalStateException("the text is full");
        }
        typed.append(letter);
        return typed.length();
    }

    public int addField(int number) throws IllegalStateException {
        if (draft.fieldCount >= MOST_FIELDS) {
            throw new IllegalStateException("the draft has all its fields");
        }
        return draft.putField(number);
    }

    public int addStep(int kind, char step, int a, int b)
            throws IllegalArgumentException, IllegalStateException {
        if (!isBelow(kind, KINDS) || !isStep(step, a, b)) {
            throw new IllegalArgumentException("no such kind or step");
        }
        if (step == 'x') {
            draft.emptySteps(kind);
            return 0;
        }
        if (draft.countSteps(kind) >= MOST_STEPS) {
            throw new IllegalStateException("the kind has all its steps");
        }
        return draft.putStep(kind, step, a, b);
    }

    public int dropFields() {
        int had = draft.fieldCount;
        draft.fieldCount = 0;
        return had;
    }

    private static boolean isStep(char step, int a, int b) {
        switch (step) {
            case 's':
            case 'a':
            case 'l':
                return isBelow(a, MOST_FIELDS);
            case 'c':
                return isBelow(a, MOST_FIELDS) && isBelow(b, MOST_FIELDS);
            case 'k':
                return isBelow(a, MOST_FIELDS) && b >= 1 && b <= MOST_LEFT_OUT;
            case 'e':
                return isBelow(a, KINDS) && isBelow(b, MOST_FIELDS);
            case 'x':
                return true;
            default:
                return false;
        }
    }

    private static boolean isBelow(int number, int end) {
        return number >= 0 && number < end;
    }

    // ---- running

    public int start() {
        running.begin(draft);
        drawing.begin();
        return running.program.fieldCount;
    }

    public int send(int kind, int load) throws IllegalStateException, IllegalArgumentException {
        if (!running.isBegun || running.queue.count >= MOST_QUEUED) {
            throw new IllegalStateException("nothing runs, or the queue is full");
        }
        if (!isBelow(kind, KINDS)) {
            throw new IllegalArgumentException("no such kind");
        }
        running.queue.put(kind, load);
        return running.queue.count;
    }

    public int update(int updates) throws IllegalStateException, IllegalArgumentException {
        if (!running.isBegun) {
            throw new IllegalStateException("nothing runs");
        }
        if (updates < 1 || updates > MOST_UPDATES || running.position + updates > MOST_LOGGED) {
            throw new IllegalArgumentException("no such number of updates");
        }
        int made = 0;
        while (made < updates && running.queue.count > 0) {
            running.takeMessage();
            made++;
        }
        return made;
    }

    public int tick() throws IllegalStateException {
        if (!running.isBegun) {
            throw new IllegalStateException("nothing runs");
        }
        int coming = running.countComing();
        if (running.queue.count + coming > MOST_QUEUED) {
            throw new IllegalStateException("the queue would be too long");
        }
        running.passTick();
        return coming;
    }

    public int subscribe(int field, int kind, int span)
            throws IllegalArgumentException, IllegalStateException {
        if (!isBelow(field, MOST_FIELDS) || !isBelow(kind, KINDS) || span < 1 || span > GREATEST_SPAN) {
            throw new IllegalArgumentException("a number is out of range");
        }
        if (running.subscriptions >= MOST_SUBSCRIPTIONS) {
            throw new IllegalStateException("all subscriptions are there");
        }
        return running.putSubscription(field, kind, span);
    }

    public int field(int field) throws IllegalStateException, IndexOutOfBoundsException {
        if (!running.isBegun) {
            throw new IllegalStateException("nothing runs");
        }
        if (!running.program.hasField(field)) {
            throw new IndexOutOfBoundsException("no such field");
        }
        return running.valueOf(field);
    }

    public int fieldByLog(int field) throws IllegalStateException, IndexOutOfBoundsException {
        if (!running.isBegun) {
            throw new IllegalStateException("nothing runs");
        }
        if (!running.program.hasField(field)) {
            throw new IndexOutOfBoundsException("no such field");
        }
        return running.findByLog(field);
    }

    public int pending() {
        return running.queue.count + PENDING_EFFECT * running.effects.count;
    }

    // ---- travel and loading

    public int travel(int position) throws IllegalStateException, IndexOutOfBoundsException {
        if (!running.isBegun) {
            throw new IllegalStateException("nothing runs");
        }
        if (position < 0 || position > running.log.count) {
            throw new IndexOutOfBoundsException("no such position");
        }
        int before = running.position;
        running.position = position;
        running.makeAnew();
        return before;
    }

    public int change(int index, int kind, int load)
            throws IllegalStateException, IndexOutOfBoundsException, IllegalArgumentException {
        if (!running.isBegun) {
            throw new IllegalStateException("nothing runs");
        }
        if (!isBelow(index, running.log.count)) {
            throw new IndexOutOfBoundsException("no such message");
        }
        if (!isBelow(kind, KINDS)) {
            throw new IllegalArgumentException("no such kind");
        }
        running.log.set(index, kind, load);
        return running.makeAnew();
    }

    public int load() throws IllegalStateException, UnsupportedOperationException {
        if (!running.isBegun) {
            throw new IllegalStateException("nothing runs");
        }
        if (draft.fieldCount != running.program.fieldCount) {
            throw new UnsupportedOperationException("the draft has another number of fields");
        }
        running.program.become(draft);
        return running.makeAnew();
    }

    public int logged() {
        return running.log.count;
    }

    // ---- screens

    public int addBlock(char kind, int a, int b, boolean isLazy)
            throws IllegalArgumentException, IllegalStateException {
        boolean hasField = kind == 'f' || kind == 'r';
        if (kind != 'c' && !hasField || hasField && !isBelow(a, MOST_FIELDS)) {
            throw new IllegalArgumentException("no such kind or field");
        }
        if (drawing.blocks >= MOST_BLOCKS) {
            throw new IllegalStateException("all blocks are there");
        }
        return drawing.putBlock(kind, a, b, isLazy);
    }

    public int draw() throws IllegalStateException {
        if (!running.isBegun) {
            throw new IllegalStateException("nothing runs");
        }
        return drawing.drawAgain(running);
    }

    public int costByTrying() throws IllegalStateException, UnsupportedOperationException {
        if (!running.isBegun) {
            throw new IllegalStateException("nothing runs");
        }
        drawing.findNext(running);
        int others = drawing.compareScreens();
        if (drawing.stays > MOST_TRIED) {
            throw new UnsupportedOperationException("too many items stay");
        }
        return others + drawing.findMovesByTrying();
    }

    public int items() {
        return drawing.drawn.count;
    }

    public int keyAt(int place) throws IndexOutOfBoundsException {
        if (!isBelow(place, drawing.drawn.count)) {
            throw new IndexOutOfBoundsException("no such item");
        }
        return drawing.drawn.keyOf(place);
    }

    public int textAt(int place) throws IndexOutOfBoundsException {
        if (!isBelow(place, drawing.drawn.count)) {
            throw new IndexOutOfBoundsException("no such item");
        }
        return drawing.drawn.textOf(place);
    }

    public int skipped() {
        return drawing.skips;
    }

    public boolean isCurrent() throws IllegalStateException {
        if (!running.isBegun) {
            throw new IllegalStateException("nothing runs");
        }
        drawing.findNext(running);
        return drawing.drawn.isSame(drawing.next);
    }

    // ---- types

    public int addType(char kind, int a, int b) throws IllegalArgumentException,
            IndexOutOfBoundsException, IllegalStateException, UnsupportedOperationException {
        boolean isLeaf = kind == 'v' || kind == 'b';
        boolean isMade = kind == 'f' || kind == 'p';
        if (!isLeaf && !isMade || isLeaf && !isBelow(a, MOST_SIGNS)) {
            throw new IllegalArgumentException("no such kind, variable or base");
        }
        if (isMade && (!types.has(a) || !types.has(b))) {
            throw new IndexOutOfBoundsException("no such type");
        }
        int second = isLeaf ? 0 : b;
        int known = types.find(kind, a, second);
        if (known != NONE) {
            return known;
        }
        if (types.count >= MOST_TYPES) {
            throw new IllegalStateException("all types are there");
        }
        int leaves = isLeaf ? 1 : types.countLeaves(a) + types.countLeaves(b);
        if (leaves > MOST_LEAVES) {
            throw new UnsupportedOperationException("the type would be too large");
        }
        return types.put(kind, a, second, leaves);
    }

    public boolean areAlike(int one, int other) throws IndexOutOfBoundsException {
        if (!types.has(one) || !types.has(other)) {
            throw new IndexOutOfBoundsException("no such type");
        }
        return types.becomesByRenaming(one, other);
    }

    public boolean isGeneral(int one, int other) throws IndexOutOfBoundsException {
        if (!types.has(one) || !types.has(other)) {
            throw new IndexOutOfBoundsException("no such type");
        }
        return types.becomesByPutting(one, other);
    }

    // ---- registry

    public int addPackage() throws IllegalStateException {
        if (solver.packs.size() >= MOST_PACKAGES) {
            throw new IllegalStateException("all packages are there");
        }
        solver.packs.add(new Pack());
        return solver.packs.size() - 1;
    }

    public int expose(int number, int type)
            throws IndexOutOfBoundsException, IllegalArgumentException, IllegalStateException {
        String text = takeTyped();
        Pack pack = solver.packOf(number);
        if (pack == null || !types.has(type)) {
            throw new IndexOutOfBoundsException("no such package or type");
        }
        if (text.isEmpty()) {
            throw new IllegalArgumentException("the text is empty");
        }
        int place = pack.draft.placeOfName(text);
        if (place == NONE && pack.draft.names.size() >= MOST_NAMES) {
            throw new IllegalStateException("all names are there");
        }
        pack.draft.putName(place, new Name(text, type));
        return pack.draft.names.size();
    }

    public int hide(int number) throws IndexOutOfBoundsException, NoSuchElementException {
        String text = takeTyped();
        Pack pack = solver.packOf(number);
        if (pack == null) {
            throw new IndexOutOfBoundsException("no such package");
        }
        int place = pack.draft.placeOfName(text);
        if (place == NONE) {
            throw new NoSuchElementException("no such name");
        }
        pack.draft.names.remove(place);
        return pack.draft.names.size();
    }

    public int need(int number, int needed, int lowest, int end)
            throws IndexOutOfBoundsException, IllegalArgumentException, IllegalStateException {
        ArrayList<Need> needs = solver.needsOf(number);
        if (needs == null || solver.packOf(needed) == null) {
            throw new IndexOutOfBoundsException("no such package");
        }
        if (number == needed || lowest < 0 || end <= lowest || end > GREATEST_VERSION) {
            throw new IllegalArgumentException("the same package, or no such versions");
        }
        int most = number == APPLICATION ? MOST_APPLICATION_NEEDS : MOST_NEEDS;
        if (needs.size() >= most) {
            throw new IllegalStateException("all needs are there");
        }
        needs.add(new Need(needed, lowest, end));
        return needs.size();
    }

    public int dropNeeds(int number) throws IndexOutOfBoundsException {
        ArrayList<Need> needs = solver.needsOf(number);
        if (needs == null) {
            throw new IndexOutOfBoundsException("no such package");
        }
        int had = needs.size();
        needs.clear();
        return had;
    }

    public int publish(int number) throws IndexOutOfBoundsException, IllegalStateException {
        Pack pack = solver.packOf(number);
        if (pack == null) {
            throw new IndexOutOfBoundsException("no such package");
        }
        if (pack.versions.size() >= MOST_VERSIONS) {
            throw new IllegalStateException("all versions are there");
        }
        char judgement = findJudgement(pack);
        Version version = pack.draft.keepAs(nextNumber(pack.findLatest(), judgement));
        pack.versions.add(version);
        published++;
        if (judgement == 'f' || judgement == 'M') {
            majors++;
        }
        return version.number;
    }

    public char judge(int number) throws IndexOutOfBoundsException {
        Pack pack = solver.packOf(number);
        if (pack == null) {
            throw new IndexOutOfBoundsException("no such package");
        }
        return findJudgement(pack);
    }

    public int solve() throws UnsupportedOperationException {
        if (!solver.findChoice(NONE)) {
            throw new UnsupportedOperationException("there is no choice");
        }
        return solver.countPicked();
    }

    public int chosen(int number) throws IndexOutOfBoundsException, UnsupportedOperationException {
        if (solver.packOf(number) == null) {
            throw new IndexOutOfBoundsException("no such package");
        }
        if (!solver.findChoice(NONE)) {
            throw new UnsupportedOperationException("there is no choice");
        }
        Version version = solver.pickedOf(number);
        return version == null ? 0 : version.number;
    }

    public int blame() throws IllegalStateException, NoSuchElementException {
        if (solver.findChoice(NONE)) {
            throw new IllegalStateException("there is a choice");
        }
        for (int i = 0; i < solver.application.size(); i++) {
            if (solver.findChoice(i)) {
                return i;
            }
        }
        throw new NoSuchElementException("no such need");
    }

    private String takeTyped() {
        String text = typed.toString();
        typed.setLength(0);
        return text;
    }

    private char findJudgement(Pack pack) {
        Version latest = pack.findLatest();
        if (latest == null) {
            return 'f';
        }
        for (int i = 0; i < latest.names.size(); i++) {
            Name name = latest.names.get(i);
            int place = pack.draft.placeOfName(name.text);
            if (place == NONE || !types.becomesByRenaming(name.type, pack.draft.typeOf(place))) {
                return 'M';
            }
        }
        return pack.draft.names.size() > latest.names.size() ? 'm' : 'p';
    }

    private static int nextNumber(Version latest, char judgement) {
        if (latest == null) {
            return FIRST_VERSION;
        }
        switch (judgement) {
            case 'M':
                return latest.number - latest.number % MAJOR + MAJOR;
            case 'm':
                return latest.number - latest.number % MINOR + MINOR;
            default:
                return latest.number + 1;
        }
    }

    // ---- advice and figures

    public int advise(int number) throws IndexOutOfBoundsException, NoSuchElementException {
        String text = takeTyped();
        Pack pack = solver.packOf(number);
        if (pack == null) {
            throw new IndexOutOfBoundsException("no such package");
        }
        Version latest = pack.findLatest();
        if (latest == null || latest.names.isEmpty()) {
            throw new NoSuchElementException("no names are published");
        }
        String nearest = latest.names.get(0).text;
        int least = findDistance(nearest, text);
        for (int i = 1; i < latest.names.size(); i++) {
            String other = latest.names.get(i).text;
            int distance = findDistance(other, text);
            if (distance < least || distance == least && isAhead(other, nearest)) {
                nearest = other;
                least = distance;
            }
        }
        written = nearest;
        return least;
    }

    public char writtenAt(int index) throws IndexOutOfBoundsException {
        if (!isBelow(index, written.length())) {
            throw new IndexOutOfBoundsException("no such letter");
        }
        return written.charAt(index);
    }

    public float majorShare() throws ArithmeticException {
        if (published == 0) {
            throw new ArithmeticException("none is published");
        }
        return (float) majors / (float) published;
    }

    public double meanCost() throws IllegalStateException, ArithmeticException {
        if (!running.isBegun) {
            throw new IllegalStateException("nothing runs");
        }
        if (drawing.drawings == 0) {
            throw new ArithmeticException("nothing was drawn");
        }
        return (double) drawing.costs / (double) drawing.drawings;
    }

    private static boolean isAhead(String one, String other) {
        int shared = Math.min(one.length(), other.length());
        for (int i = 0; i < shared; i++) {
            if (one.charAt(i) != other.charAt(i)) {
                return one.charAt(i) < other.charAt(i);
            }
        }
        return one.length() < other.length();
    }

    private int findDistance(String one, String other) {
        int oneLength = Math.min(one.length(), MOST_LETTERS);
        int otherLength = Math.min(other.length(), MOST_LETTERS);
        for (int i = 0; i <= oneLength; i++) {
            for (int j = 0; j <= otherLength; j++) {
                if (i == 0 || j == 0) {
                    distances[i][j] = i + j;
                } else {
                    distances[i][j] = findLeast(one, i, other, j);
                }
            }
        }
        return distances[oneLength][otherLength];
    }

    /** The distance of the first i letters and the first j ones; i and j are at least 1. */
    private int findLeast(String one, int i, String other, int j) {
        char last = one.charAt(i - 1);
        char otherLast = other.charAt(j - 1);
        int least = distances[i - 1][j - 1] + (last == otherLast ? 0 : 1);
        least = Math.min(least, distances[i - 1][j] + 1);
        least = Math.min(least, distances[i][j - 1] + 1);
        if (i > 1 && j > 1 && last == other.charAt(j - 2) && otherLast == one.charAt(i - 2)) {
            least = Math.min(least, distances[i - 2][j - 2] + 1);
        }
        return least;
    }

    /** What fields begin with, and the steps of each kind of message. */
    private static final class Program {
        private final int[] beginnings = new int[MOST_FIELDS];
        private final int[] stepCounts = new int[KINDS];
        private final char[] steps = new char[KINDS * MOST_STEPS];
        private final int[] firsts = new int[KINDS * MOST_STEPS];
        private final int[] seconds = new int[KINDS * MOST_STEPS];
        private int fieldCount;

        private boolean hasField(int field) {
            return field >= 0 && field < fieldCount;
        }

        private int putField(int number) {
            if (!isBelow(fieldCount, MOST_FIELDS)) {
                return NONE;
            }
            beginnings[fieldCount] = number;
            fieldCount++;
            return fieldCount - 1;
        }

        private int countSteps(int kind) {
            return isBelow(kind, KINDS) ? stepCounts[kind] : 0;
        }

        private void emptySteps(int kind) {
            if (isBelow(kind, KINDS)) {
                stepCounts[kind] = 0;
            }
        }

        private int putStep(int kind, char step, int a, int b) {
            int count = countSteps(kind);
            if (!isBelow(kind, KINDS) || !isBelow(count, MOST_STEPS)) {
                return count;
            }
            int place = kind * MOST_STEPS + count;
            steps[place] = step;
            firsts[place] = a;
            seconds[place] = b;
            stepCounts[kind] = count + 1;
            return count + 1;
        }

        private void become(Program other) {
            fieldCount = other.fieldCount;
            System.arraycopy(other.beginnings, 0, beginnings, 0, MOST_FIELDS);
            System.arraycopy(other.stepCounts, 0, stepCounts, 0, KINDS);
            System.arraycopy(other.steps, 0, steps, 0, KINDS * MOST_STEPS);
            System.arraycopy(other.firsts, 0, firsts, 0, KINDS * MOST_STEPS);
            System.arraycopy(other.seconds, 0, seconds, 0, KINDS * MOST_STEPS);
        }

        /** Makes the fields new by a message; its effects are put only where a row for them is given. */
        private void goThrough(int kind, int load, int[] fields, Messages effects) {
            int count = countSteps(kind);
            int leftOut = 0;
            for (int i = 0; i < count; i++) {
                int place = kind * MOST_STEPS + i;
                int a = firsts[place];
                int b = seconds[place];
                if (leftOut > 0) {
                    leftOut--;
                } else if (steps[place] == 'k') {
                    leftOut = hasField(a) && fields[a] < load ? b : 0;
                } else if (steps[place] == 'e') {
                    if (hasField(b) && effects != null) {
                        effects.put(a, fields[b]);
                    }
                } else if (hasField(a)) {
                    fields[a] = findNew(steps[place], fields[a], b, load, fields);
                }
            }
        }

        private int findNew(char step, int old, int b, int load, int[] fields) {
            switch (step) {
                case 's':
                    return b;
                case 'a':
                    return old + b;
                case 'l':
                    return old + load;
                case 'c':
                    return hasField(b) ? fields[b] : old;
                default:
                    return old;
            }
        }
    }

    /** Messages in their order. Those beyond the longest log are only counted: no tick can queue them. */
    private static final class Messages {
        private final int[] kinds = new int[MOST_LOGGED];
        private final int[] loads = new int[MOST_LOGGED];
        private int count;

        private void put(int kind, int load) {
            set(count, kind, load);
            count++;
        }

        private void set(int index, int kind, int load) {
            if (isBelow(index, MOST_LOGGED)) {
                kinds[index] = kind;
                loads[index] = load;
            }
        }

        private int kindOf(int index) {
            return isBelow(index, MOST_LOGGED) ? kinds[index] : NONE;
        }

        private int loadOf(int index) {
            return isBelow(index, MOST_LOGGED) ? loads[index] : 0;
        }

        private void dropFirst() {
            if (count < 1 || count > MOST_LOGGED) {
                return;
            }
            count--;
            System.arraycopy(kinds, 1, kinds, 0, count);
            System.arraycopy(loads, 1, loads, 0, count);
        }
    }

    /** The running program, and the subscriptions, which outlast it. */
    private static final class Running {
        private final Program program = new Program();
        private final int[] fields = new int[MOST_FIELDS];
        private final int[] others = new int[MOST_FIELDS];
        private final Messages log = new Messages();
        private final Messages queue = new Messages();
        private final Messages effects = new Messages();
        private final int[] watched = new int[MOST_SUBSCRIPTIONS];
        private final int[] kinds = new int[MOST_SUBSCRIPTIONS];
        private final int[] spans = new int[MOST_SUBSCRIPTIONS];
        private int subscriptions;
        private boolean isBegun;
        private int position;
        private int ticks;

        private void begin(Program draft) {
            program.become(draft);
            log.count = 0;
            queue.count = 0;
            effects.count = 0;
            position = 0;
            ticks = 0;
            isBegun = true;
            makeAnew();
        }

        /** A field that is not there counts as 0. */
        private int valueOf(int field) {
            return isBelow(field, MOST_FIELDS) && program.hasField(field) ? fields[field] : 0;
        }

        private void replay(int[] into) {
            System.arraycopy(program.beginnings, 0, into, 0, MOST_FIELDS);
            for (int i = 0; i < position; i++) {
                program.goThrough(log.kindOf(i), log.loadOf(i), into, null);
            }
        }

        private int findByLog(int field) {
            replay(others);
            return isBelow(field, MOST_FIELDS) ? others[field] : 0;
        }

        /** Makes the fields anew by the log, and returns how many are other ones by this. */
        private int makeAnew() {
            System.arraycopy(fields, 0, others, 0, MOST_FIELDS);
            replay(fields);
            int changed = 0;
            for (int i = 0; i < program.fieldCount; i++) {
                if (fields[i] != others[i]) {
                    changed++;
                }
            }
            return changed;
        }

        private void takeMessage() {
            int kind = queue.kindOf(0);
            int load = queue.loadOf(0);
            queue.dropFirst();
            log.count = position;
            log.put(kind, load);
            position = log.count;
            program.goThrough(kind, load, fields, effects);
        }

        private int putSubscription(int field, int kind, int span) {
            if (!isBelow(subscriptions, MOST_SUBSCRIPTIONS)) {
                return NONE;
            }
            watched[subscriptions] = field;
            kinds[subscriptions] = kind;
            spans[subscriptions] = span;
            subscriptions++;
            return subscriptions - 1;
        }

        private boolean isDue(int index, int tick) {
            return valueOf(watched[index]) > 0 && spans[index] > 0 && tick % spans[index] == 0;
        }

        /** Of several that would put the same message by the same span, the first one puts it. */
        private boolean isPutting(int index, int tick) {
            for (int i = 0; i < index; i++) {
                if (kinds[i] == kinds[index] && spans[i] == spans[index] && isDue(i, tick)) {
                    return false;
                }
            }
            return isDue(index, tick);
        }

        private int countComing() {
            int coming = effects.count;
            for (int i = 0; i < subscriptions; i++) {
                if (isPutting(i, ticks + 1)) {
                    coming++;
                }
            }
            return coming;
        }

        private void passTick() {
            ticks++;
            int waiting = Math.min(effects.count, MOST_QUEUED);
            for (int i = 0; i < waiting; i++) {
                queue.put(effects.kindOf(i), effects.loadOf(i));
            }
            effects.count = 0;
            for (int i = 0; i < subscriptions; i++) {
                if (isPutting(i, ticks)) {
                    queue.put(kinds[i], ticks);
                }
            }
        }
    }

    /** A row of items. */
    private static final class Screen {
        private final int[] keys = new int[MOST_ITEMS];
        private final int[] texts = new int[MOST_ITEMS];
        private int count;

        private void put(int key, int text) {
            if (isBelow(count, MOST_ITEMS)) {
                keys[count] = key;
                texts[count] = text;
                count++;
            }
        }

        private int keyOf(int place) {
            return isBelow(place, count) ? keys[place] : NONE;
        }

        private int textOf(int place) {
            return isBelow(place, count) ? texts[place] : 0;
        }

        private int placeOf(int key) {
            for (int i = 0; i < count; i++) {
                if (keys[i] == key) {
                    return i;
                }
            }
            return NONE;
        }

        private boolean isSame(Screen other) {
            if (count != other.count) {
                return false;
            }
            for (int i = 0; i < count; i++) {
                if (keys[i] != other.keyOf(i) || texts[i] != other.textOf(i)) {
                    return false;
                }
            }
            return true;
        }
    }

    /** The blocks, the drawn screen, and the one that is compared with it. */
    private static final class Drawing {
        private final char[] kinds = new char[MOST_BLOCKS];
        private final int[] watched = new int[MOST_BLOCKS];
        private final int[] numbers = new int[MOST_BLOCKS];
        private final boolean[] lazies = new boolean[MOST_BLOCKS];
        private final int[] seen = new int[MOST_BLOCKS];
        private final int[] places = new int[MOST_ITEMS];
        private final int[] lengths = new int[MOST_ITEMS];
        private Screen drawn = new Screen();
        private Screen next = new Screen();
        private int blocks;
        private int drawnBlocks;
        private int stays;
        private int skips;
        private int drawings;
        private long costs;

        private void begin() {
            drawn.count = 0;
            drawnBlocks = 0;
            skips = 0;
            drawings = 0;
            costs = 0;
        }

        private int putBlock(char kind, int field, int number, boolean isLazy) {
            if (!isBelow(blocks, MOST_BLOCKS)) {
                return NONE;
            }
            kinds[blocks] = kind;
            watched[blocks] = field;
            numbers[blocks] = number;
            lazies[blocks] = isLazy;
            blocks++;
            return blocks - 1;
        }

        private void findNext(Running running) {
            next.count = 0;
            for (int i = 0; i < blocks; i++) {
                findBlock(i, running.valueOf(watched[i]));
            }
        }

        private void findBlock(int block, int value) {
            int firstKey = KEYS_OF_BLOCK * block;
            if (kinds[block] == 'c') {
                next.put(firstKey, numbers[block]);
            } else if (kinds[block] == 'f') {
                next.put(firstKey, value);
            } else {
                int repeated = Math.min(Math.max(value, 0), MOST_REPEATED);
                boolean isFalling = value % 2 != 0;
                for (int i = 0; i < repeated; i++) {
                    int place = isFalling ? repeated - 1 - i : i;
                    next.put(firstKey + place, place + numbers[block]);
                }
            }
        }

        private boolean isSkipped(int block, int value) {
            return lazies[block] && kinds[block] != 'c' && block < drawnBlocks && seen[block] == value;
        }

        private void repeatBlock(int block) {
            for (int i = 0; i < drawn.count; i++) {
                if (drawn.keyOf(i) / KEYS_OF_BLOCK == block) {
                    next.put(drawn.keyOf(i), drawn.textOf(i));
                }
            }
        }

        private int drawAgain(Running running) {
            next.count = 0;
            for (int i = 0; i < blocks; i++) {
                int value = running.valueOf(watched[i]);
                if (isSkipped(i, value)) {
                    repeatBlock(i);
                    skips++;
                } else {
                    findBlock(i, value);
                }
                seen[i] = value;
            }
            int cost = compareScreens() + findMoves();
            Screen old = drawn;
            drawn = next;
            next = old;
            drawnBlocks = blocks;
            drawings++;
            costs += cost;
            return cost;
        }

        /** Notes the old places of the items that stay, and returns what all but the moves costs. */
        private int compareScreens() {
            stays = 0;
            int texts = 0;
            for (int i = 0; i < next.count; i++) {
                int place = drawn.placeOf(next.keyOf(i));
                if (place != NONE && isBelow(stays, MOST_ITEMS)) {
                    places[stays] = place;
                    stays++;
                    texts += drawn.textOf(place) == next.textOf(i) ? 0 : 1;
                }
            }
            return drawn.count - stays + 2 * (next.count - stays) + texts;
        }

        /** All items move but those of a longest row that rises in the old places. */
        private int findMoves() {
            int longest = 0;
            for (int i = 0; i < stays; i++) {
                lengths[i] = 1;
                for (int j = 0; j < i; j++) {
                    if (places[j] < places[i]) {
                        lengths[i] = Math.max(lengths[i], lengths[j] + 1);
                    }
                }
                longest = Math.max(longest, lengths[i]);
            }
            return stays - longest;
        }

        private int findMovesByTrying() {
            int least = stays;
            for (int moved = 0; moved < 1 << Math.min(stays, MOST_TRIED); moved++) {
                int moves = Integer.bitCount(moved);
                if (moves < least && isRisingWithout(moved)) {
                    least = moves;
                }
            }
            return least;
        }

        private boolean isRisingWithout(int moved) {
            int ahead = NONE;
            for (int i = 0; i < stays; i++) {
                if ((moved >> i & 1) == 0) {
                    if (places[i] <= ahead) {
                        return false;
                    }
                    ahead = places[i];
                }
            }
            return true;
        }
    }

    /** The types. Each stands once, so two types are the same if their numbers are. */
    private static final class Types {
        private final char[] kinds = new char[MOST_TYPES];
        private final int[] firsts = new int[MOST_TYPES];
        private final int[] seconds = new int[MOST_TYPES];
        private final int[] leaves = new int[MOST_TYPES];
        private final int[] putTypes = new int[MOST_SIGNS];
        private final int[] backTypes = new int[MOST_SIGNS];
        private final int[] ones = new int[MOST_PARTS];
        private final int[] others = new int[MOST_PARTS];
        private int waiting;
        private int count;

        private boolean has(int number) {
            return number >= 0 && number < count;
        }

        private int countLeaves(int number) {
            return has(number) ? leaves[number] : 0;
        }

        private int find(char kind, int first, int second) {
            for (int i = 0; i < count; i++) {
                if (kinds[i] == kind && firsts[i] == first && seconds[i] == second) {
                    return i;
                }
            }
            return NONE;
        }

        private int put(char kind, int first, int second, int size) {
            if (!isBelow(count, MOST_TYPES)) {
                return NONE;
            }
            kinds[count] = kind;
            firsts[count] = first;
            seconds[count] = second;
            leaves[count] = size;
            count++;
            return count - 1;
        }

        private boolean becomesByRenaming(int one, int other) {
            return isMatching(one, other, true);
        }

        private boolean becomesByPutting(int one, int other) {
            return isMatching(one, other, false);
        }

        /** Goes through both types at once; pairs of parts that are still to be looked at wait. */
        private boolean isMatching(int one, int other, boolean isRenaming) {
            for (int i = 0; i < MOST_SIGNS; i++) {
                putTypes[i] = NONE;
                backTypes[i] = NONE;
            }
            waiting = 0;
            addPair(one, other);
            for (int i = 0; i < MOST_PARTS && waiting > 0; i++) {
                waiting--;
                if (!isPairMatching(ones[waiting], others[waiting], isRenaming)) {
                    return false;
                }
            }
            return waiting == 0;
        }

        private void addPair(int one, int other) {
            if (isBelow(waiting, MOST_PARTS)) {
                ones[waiting] = one;
                others[waiting] = other;
                waiting++;
            }
        }

        private boolean isPairMatching(int one, int other, boolean isRenaming) {
            if (!has(one) || !has(other)) {
                return false;
            }
            if (kinds[one] == 'v') {
                return isRenaming ? isRenamed(one, other) : isPut(firsts[one], other);
            }
            if (kinds[one] == 'b') {
                return one == other;
            }
            if (kinds[one] != kinds[other]) {
                return false;
            }
            addPair(firsts[one], firsts[other]);
            addPair(seconds[one], seconds[other]);
            return true;
        }

        private boolean isRenamed(int one, int other) {
            return kinds[other] == 'v' && isPut(firsts[one], other) && isBack(firsts[other], one);
        }

        private boolean isPut(int variable, int type) {
            if (!isBelow(variable, MOST_SIGNS)) {
                return false;
            }
            if (putTypes[variable] == NONE) {
                putTypes[variable] = type;
            }
            return putTypes[variable] == type;
        }

        private boolean isBack(int variable, int type) {
            if (!isBelow(variable, MOST_SIGNS)) {
                return false;
            }
            if (backTypes[variable] == NONE) {
                backTypes[variable] = type;
            }
            return backTypes[variable] == type;
        }
    }

    /** A name with the number of its type. */
    private static final class Name {
        private final String text;
        private final int type;

        private Name(String text, int type) {
            this.text = text;
            this.type = type;
        }
    }

    /** A need of a package, from a lowest version to ahead of an end. */
    private static final class Need {
        private final int needed;
        private final int lowest;
        private final int end;

        private Need(int needed, int lowest, int end) {
            this.needed = needed;
            this.lowest = lowest;
            this.end = end;
        }

        private boolean isMetBy(Version version) {
            return version != null && version.number >= lowest && version.number < end;
        }
    }

    /** The names and needs of a published version, or of a draft. */
    private static final class Version {
        private final int number;
        private final ArrayList<Name> names = new ArrayList<Name>();
        private final ArrayList<Need> needs = new ArrayList<Need>();

        private Version(int number) {
            this.number = number;
        }

        private int placeOfName(String text) {
            for (int i = 0; i < names.size(); i++) {
                if (names.get(i).text.equals(text)) {
                    return i;
                }
            }
            return NONE;
        }

        private int typeOf(int place) {
            return isBelow(place, names.size()) ? names.get(place).type : NONE;
        }

        private void putName(int place, Name name) {
            if (isBelow(place, names.size())) {
                names.set(place, name);
            } else {
                names.add(name);
            }
        }

        private Version keepAs(int keptNumber) {
            Version kept = new Version(keptNumber);
            for (int i = 0; i < names.size(); i++) {
                kept.names.add(names.get(i));
            }
            for (int i = 0; i < needs.size(); i++) {
                kept.needs.add(needs.get(i));
            }
            return kept;
        }
    }

    /** A package: its draft, and its versions, whose numbers rise. */
    private static final class Pack {
        private final Version draft = new Version(0);
        private final ArrayList<Version> versions = new ArrayList<Version>();

        private Version findLatest() {
            return versions.isEmpty() ? null : versions.get(versions.size() - 1);
        }
    }

    /** The packages and the application, and the choice of versions that is tried. */
    private static final class Solver {
        private final ArrayList<Pack> packs = new ArrayList<Pack>();
        private final ArrayList<Need> application = new ArrayList<Need>();
        private final int[] picked = new int[MOST_PACKAGES];
        private int leftOut = NONE;
        private int reachable;

        private Pack packOf(int number) {
            return isBelow(number, packs.size()) ? packs.get(number) : null;
        }

        private ArrayList<Need> needsOf(int number) {
            if (number == APPLICATION) {
                return application;
            }
            Pack pack = packOf(number);
            return pack == null ? null : pack.draft.needs;
        }

        private Version pickedOf(int number) {
            Pack pack = packOf(number);
            if (pack == null || !isBelow(number, MOST_PACKAGES)) {
                return null;
            }
            int index = picked[number];
            return isBelow(index, pack.versions.size()) ? pack.versions.get(index) : null;
        }

        private int countPicked() {
            int count = 0;
            for (int i = 0; i < packs.size(); i++) {
                if (pickedOf(i) != null) {
                    count++;
                }
            }
            return count;
        }

        /** Finds the choice that is taken if a need of the application is left out, or none is. */
        private boolean findChoice(int without) {
            leftOut = without;
            reachable = findAsked(true);
            return isCompleted(this, 0);
        }

        /** Tries the greatest versions first, so that the first choice that holds is the one to take. */
        private static boolean isCompleted(Solver solver, int number) {
            Pack pack = solver.packOf(number);
            if (pack == null || !isBelow(number, MOST_PACKAGES)) {
                return solver.isEachAsked();
            }
            boolean isReachable = (solver.reachable >> number & 1) != 0;
            for (int i = isReachable ? pack.versions.size() - 1 : NONE; i >= NONE; i--) {
                solver.picked[number] = i;
                if (solver.isFitting(number) && isCompleted(solver, number + 1)) {
                    return true;
                }
            }
            return false;
        }

        /** Whether all needs between the package and those ahead of it, and the application, are met. */
        private boolean isFitting(int number) {
            Version version = pickedOf(number);
            for (int i = 0; i < application.size(); i++) {
                Need need = application.get(i);
                if (i != leftOut && need.needed == number && !need.isMetBy(version)) {
                    return false;
                }
            }
            for (int i = 0; i < number; i++) {
                Version other = pickedOf(i);
                if (!isMeeting(other, number, version) || !isMeeting(version, i, other)) {
                    return false;
                }
            }
            return true;
        }

        private static boolean isMeeting(Version asking, int number, Version version) {
            if (asking == null) {
                return true;
            }
            for (int i = 0; i < asking.needs.size(); i++) {
                Need need = asking.needs.get(i);
                if (need.needed == number && !need.isMetBy(version)) {
                    return false;
                }
            }
            return true;
        }

        private boolean isEachAsked() {
            int asked = findAsked(false);
            for (int i = 0; i < packs.size(); i++) {
                if (pickedOf(i) != null && (asked >> i & 1) == 0) {
                    return false;
                }
            }
            return true;
        }

        /** The packages that are needed, as bits, over all versions or over the picked ones alone. */
        private int findAsked(boolean isOverAll) {
            int asked = 0;
            for (int i = 0; i < application.size(); i++) {
                asked |= i == leftOut ? 0 : 1 << application.get(i).needed;
            }
            for (int round = 0; round < MOST_PACKAGES; round++) {
                for (int i = 0; i < packs.size(); i++) {
                    if ((asked >> i & 1) != 0) {
                        asked |= findAskedBy(i, isOverAll);
                    }
                }
            }
            return asked;
        }

        private int findAskedBy(int number, boolean isOverAll) {
            Pack pack = packOf(number);
            if (pack == null || !isBelow(number, MOST_PACKAGES)) {
                return 0;
            }
            int asked = 0;
            for (int i = 0; i < pack.versions.size(); i++) {
                if (isOverAll || i == picked[number]) {
                    ArrayList<Need> needs = pack.versions.get(i).needs;
                    for (int j = 0; j < needs.size(); j++) {
                        asked |= 1 << needs.get(j).needed;
                    }
                }
            }
            return asked;
        }
    }
}
