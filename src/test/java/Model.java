import java.util.ArrayList;
import java.util.Arrays;
import java.util.HashMap;
import java.util.List;
import java.util.Map;
import java.util.NoSuchElementException;
import java.util.TreeMap;

/** The document once more, by other means and with the Java library, to compare random runs with. */
public final class Model {
    private record Step(char step, int a, int b) {
    }

    private record Message(int kind, int load) {
    }

    private record Subscription(int field, int kind, int span) {
    }

    private record Block(char kind, int a, int b, boolean isLazy) {
    }

    private record Item(int key, int text) {
    }

    private record Type(char kind, int a, int b) {
    }

    private record Need(int needed, int lowest, int end) {
    }

    private record Version(int number, TreeMap<String, Integer> names, List<Need> needs) {
    }

    private static final class Package {
        final TreeMap<String, Integer> names = new TreeMap<>();
        final List<Need> needs = new ArrayList<>();
        final List<Version> versions = new ArrayList<>();
    }

    private String typed = "";
    private final List<Integer> draftFields = new ArrayList<>();
    private final List<List<Step>> draftSteps = new ArrayList<>();
    private final List<Subscription> subscriptions = new ArrayList<>();
    private final List<Block> blocks = new ArrayList<>();
    private final List<Type> types = new ArrayList<>();
    private final List<Package> packages = new ArrayList<>();
    private final List<Need> application = new ArrayList<>();
    private String written = "";
    private int majors;

    private List<Integer> beginnings;
    private List<List<Step>> steps;
    private List<Message> log;
    private List<Message> queue;
    private List<Message> effects;
    private int position;
    private int ticks;
    private List<Item> drawn;
    private List<Integer> seen;
    private int skips;
    private List<Integer> costs;

    public Model() {
        for (int i = 0; i < 5; i++) {
            draftSteps.add(new ArrayList<>());
        }
    }

    int countTypes() {
        return types.size();
    }

    int countPackages() {
        return packages.size();
    }

    private static boolean in(int number, int lowest, int greatest) {
        return lowest <= number && number <= greatest;
    }

    private void needRunning() {
        if (log == null) {
            throw new IllegalStateException();
        }
    }

    public int type(char letter) {
        if (!in(letter, 'a', 'z')) {
            throw new IllegalArgumentException();
        }
        if (typed.length() == 8) {
            throw new IllegalStateException();
        }
        typed += letter;
        return typed.length();
    }

    public int addField(int number) {
        if (draftFields.size() == 4) {
            throw new IllegalStateException();
        }
        draftFields.add(number);
        return draftFields.size() - 1;
    }

    public int addStep(int kind, char step, int a, int b) {
        boolean known = in(kind, 0, 4) && "salckex".indexOf(step) >= 0;
        boolean first = step == 'x' || in(a, 0, step == 'e' ? 4 : 3);
        boolean second = step == 'c' || step == 'e' ? in(b, 0, 3) : step != 'k' || in(b, 1, 7);
        if (!known || !first || !second) {
            throw new IllegalArgumentException();
        }
        if (step == 'x') {
            draftSteps.get(kind).clear();
        } else if (draftSteps.get(kind).size() == 8) {
            throw new IllegalStateException();
        } else {
            draftSteps.get(kind).add(new Step(step, a, b));
        }
        return draftSteps.get(kind).size();
    }

    public int dropFields() {
        int had = draftFields.size();
        draftFields.clear();
        return had;
    }

    private void take() {
        beginnings = List.copyOf(draftFields);
        steps = new ArrayList<>();
        for (List<Step> of : draftSteps) {
            steps.add(List.copyOf(of));
        }
    }

    public int start() {
        take();
        log = new ArrayList<>();
        queue = new ArrayList<>();
        effects = new ArrayList<>();
        position = 0;
        ticks = 0;
        drawn = new ArrayList<>();
        seen = new ArrayList<>();
        skips = 0;
        costs = new ArrayList<>();
        return beginnings.size();
    }

    private int[] fields() {
        int[] fields = beginnings.stream().mapToInt(i -> i).toArray();
        for (Message message : log.subList(0, position)) {
            go(message, fields, new ArrayList<>());
        }
        return fields;
    }

    private void go(Message message, int[] fields, List<Message> made) {
        List<Step> left = new ArrayList<>(steps.get(message.kind));
        while (!left.isEmpty()) {
            Step step = left.remove(0);
            int own = step.step == 'e' ? step.b : step.a;
            if (own >= fields.length || step.step == 'c' && step.b >= fields.length) {
                continue;
            }
            switch (step.step) {
                case 's' -> fields[own] = step.b;
                case 'a' -> fields[own] += step.b;
                case 'l' -> fields[own] += message.load;
                case 'c' -> fields[own] = fields[step.b];
                case 'e' -> made.add(new Message(step.a, fields[own]));
                default -> {
                    if (fields[own] < message.load) {
                        left = left.subList(Math.min(step.b, left.size()), left.size());
                    }
                }
            }
        }
    }

    public int send(int kind, int load) {
        needRunning();
        if (queue.size() == 40) {
            throw new IllegalStateException();
        }
        if (!in(kind, 0, 4)) {
            throw new IllegalArgumentException();
        }
        queue.add(new Message(kind, load));
        return queue.size();
    }

    public int update(int updates) {
        needRunning();
        if (!in(updates, 1, 20) || position + updates > 60) {
            throw new IllegalArgumentException();
        }
        int made = 0;
        for (; made < updates && !queue.isEmpty(); made++) {
            int[] fields = fields();
            log = new ArrayList<>(log.subList(0, position));
            Message message = queue.remove(0);
            log.add(message);
            position++;
            go(message, fields, effects);
        }
        return made;
    }

    public int tick() {
        needRunning();
        List<Message> coming = new ArrayList<>(effects);
        List<Subscription> put = new ArrayList<>();
        for (Subscription own : subscriptions) {
            int value = value(own.field);
            Subscription same = new Subscription(0, own.kind, own.span);
            if (value > 0 && (ticks + 1) % own.span == 0 && !put.contains(same)) {
                put.add(same);
                coming.add(new Message(own.kind, ticks + 1));
            }
        }
        if (queue.size() + coming.size() > 40) {
            throw new IllegalStateException();
        }
        ticks++;
        effects.clear();
        queue.addAll(coming);
        return coming.size();
    }

    public int subscribe(int field, int kind, int span) {
        if (!in(field, 0, 3) || !in(kind, 0, 4) || !in(span, 1, 9)) {
            throw new IllegalArgumentException();
        }
        if (subscriptions.size() == 4) {
            throw new IllegalStateException();
        }
        subscriptions.add(new Subscription(field, kind, span));
        return subscriptions.size() - 1;
    }

    private int value(int field) {
        int[] fields = fields();
        return in(field, 0, fields.length - 1) ? fields[field] : 0;
    }

    public int field(int field) {
        needRunning();
        if (!in(field, 0, beginnings.size() - 1)) {
            throw new IndexOutOfBoundsException();
        }
        return value(field);
    }

    public int fieldByLog(int field) {
        return field(field);
    }

    public int pending() {
        return log == null ? 0 : queue.size() + 100 * effects.size();
    }

    public int travel(int to) {
        needRunning();
        if (!in(to, 0, log.size())) {
            throw new IndexOutOfBoundsException();
        }
        int before = position;
        position = to;
        return before;
    }

    private int differences(int[] before) {
        int[] now = fields();
        int count = 0;
        for (int i = 0; i < now.length; i++) {
            count += now[i] == before[i] ? 0 : 1;
        }
        return count;
    }

    public int change(int index, int kind, int load) {
        needRunning();
        if (!in(index, 0, log.size() - 1)) {
            throw new IndexOutOfBoundsException();
        }
        if (!in(kind, 0, 4)) {
            throw new IllegalArgumentException();
        }
        int[] before = fields();
        log.set(index, new Message(kind, load));
        return differences(before);
    }

    public int load() {
        needRunning();
        if (draftFields.size() != beginnings.size()) {
            throw new UnsupportedOperationException();
        }
        int[] before = fields();
        take();
        return differences(before);
    }

    public int logged() {
        return log == null ? 0 : log.size();
    }

    public int addBlock(char kind, int a, int b, boolean isLazy) {
        if ("cfr".indexOf(kind) < 0 || kind != 'c' && !in(a, 0, 3)) {
            throw new IllegalArgumentException();
        }
        if (blocks.size() == 6) {
            throw new IllegalStateException();
        }
        blocks.add(new Block(kind, a, b, isLazy));
        return blocks.size() - 1;
    }

    private List<Item> full() {
        List<Item> row = new ArrayList<>();
        for (int k = 0; k < blocks.size(); k++) {
            Block block = blocks.get(k);
            int value = block.kind == 'c' ? 0 : value(block.a);
            List<Item> own = new ArrayList<>();
            if (block.kind == 'c') {
                own.add(new Item(10 * k, block.b));
            } else if (block.kind == 'f') {
                own.add(new Item(10 * k, value));
            } else {
                for (int i = 0; i < Math.min(6, value); i++) {
                    own.add(new Item(10 * k + i, i + block.b));
                }
                if (Math.abs((long) value) % 2 == 1) {
                    own.sort((one, other) -> other.key - one.key);
                }
            }
            row.addAll(own);
        }
        return row;
    }

    /** The cost with the longest row that stays found by binary search, as cards are laid in piles. */
    private int cost(List<Item> to) {
        Map<Integer, Integer> places = new HashMap<>();
        for (int i = 0; i < drawn.size(); i++) {
            places.put(drawn.get(i).key, i);
        }
        List<Integer> stay = new ArrayList<>();
        int cost = 0;
        for (Item item : to) {
            Integer place = places.get(item.key);
            if (place == null) {
                cost += 2;
            } else {
                stay.add(place);
                cost += drawn.get(place).text == item.text ? 0 : 1;
            }
        }
        List<Integer> piles = new ArrayList<>();
        for (Integer place : stay) {
            int pile = -1 - java.util.Collections.binarySearch(piles, place);
            if (pile == piles.size()) {
                piles.add(place);
            } else {
                piles.set(pile, place);
            }
        }
        return cost + drawn.size() - stay.size() + stay.size() - piles.size();
    }

    public int draw() {
        needRunning();
        List<Integer> values = new ArrayList<>();
        for (int i = 0; i < blocks.size(); i++) {
            Block block = blocks.get(i);
            values.add(value(block.a));
            if (block.isLazy && block.kind != 'c' && i < seen.size() && seen.get(i).equals(values.get(i))) {
                skips++;
            }
        }
        seen = values;
        List<Item> to = full();
        costs.add(cost(to));
        drawn = to;
        return costs.get(costs.size() - 1);
    }

    public int costByTrying() {
        needRunning();
        List<Item> to = full();
        long stay = to.stream().filter(item -> drawn.stream().anyMatch(old -> old.key == item.key)).count();
        if (stay > 12) {
            throw new UnsupportedOperationException();
        }
        return cost(to);
    }

    public int items() {
        return log == null ? 0 : drawn.size();
    }

    private Item item(int place) {
        if (!in(place, 0, items() - 1)) {
            throw new IndexOutOfBoundsException();
        }
        return drawn.get(place);
    }

    public int keyAt(int place) {
        return item(place).key;
    }

    public int textAt(int place) {
        return item(place).text;
    }

    public int skipped() {
        return skips;
    }

    public boolean isCurrent() {
        needRunning();
        return drawn.equals(full());
    }

    private String tell(int number, Map<Integer, String> puts) {
        Type type = types.get(number);
        if (type.kind == 'v') {
            return puts.computeIfAbsent(type.a, variable -> "v" + puts.size());
        }
        if (type.kind == 'b') {
            return "b" + type.a;
        }
        return type.kind + "(" + tell(type.a, puts) + "," + tell(type.b, puts) + ")";
    }

    private String tell(int number) {
        Map<Integer, String> own = new HashMap<>();
        for (int i = 0; i < 6; i++) {
            own.put(i, "v" + i);
        }
        return tell(number, own);
    }

    private boolean knows(int number) {
        return in(number, 0, types.size() - 1);
    }

    public int addType(char kind, int a, int b) {
        boolean leaf = kind == 'v' || kind == 'b';
        if ("vbfp".indexOf(kind) < 0 || leaf && !in(a, 0, 5)) {
            throw new IllegalArgumentException();
        }
        if (!leaf && (!knows(a) || !knows(b))) {
            throw new IndexOutOfBoundsException();
        }
        Type type = new Type(kind, a, leaf ? 0 : b);
        if (types.contains(type)) {
            return types.indexOf(type);
        }
        if (types.size() == 40) {
            throw new IllegalStateException();
        }
        types.add(type);
        if (tell(types.size() - 1).chars().filter(c -> c == 'v' || c == 'b').count() > 40) {
            types.remove(types.size() - 1);
            throw new UnsupportedOperationException();
        }
        return types.size() - 1;
    }

    public boolean areAlike(int one, int other) {
        if (!knows(one) || !knows(other)) {
            throw new IndexOutOfBoundsException();
        }
        return alike(one, other);
    }

    private boolean alike(int one, int other) {
        return tell(one, new HashMap<>()).equals(tell(other, new HashMap<>()));
    }

    private void gather(int one, int other, Map<Integer, String> puts) {
        Type type = types.get(one);
        Type opposite = types.get(other);
        if (type.kind == 'v') {
            puts.putIfAbsent(type.a, tell(other));
        } else if (type.kind != 'b' && type.kind == opposite.kind) {
            gather(type.a, opposite.a, puts);
            gather(type.b, opposite.b, puts);
        }
    }

    public boolean isGeneral(int one, int other) {
        if (!knows(one) || !knows(other)) {
            throw new IndexOutOfBoundsException();
        }
        Map<Integer, String> puts = new HashMap<>();
        gather(one, other, puts);
        return tell(one, puts).equals(tell(other));
    }

    public int addPackage() {
        if (packages.size() == 4) {
            throw new IllegalStateException();
        }
        packages.add(new Package());
        return packages.size() - 1;
    }

    private Package at(int number) {
        if (!in(number, 0, packages.size() - 1)) {
            throw new IndexOutOfBoundsException();
        }
        return packages.get(number);
    }

    private String text() {
        String text = typed;
        typed = "";
        return text;
    }

    public int expose(int number, int type) {
        String text = text();
        Package own = at(number);
        if (!knows(type)) {
            throw new IndexOutOfBoundsException();
        }
        if (text.isEmpty()) {
            throw new IllegalArgumentException();
        }
        if (!own.names.containsKey(text) && own.names.size() == 6) {
            throw new IllegalStateException();
        }
        own.names.put(text, type);
        return own.names.size();
    }

    public int hide(int number) {
        String text = text();
        Package own = at(number);
        if (own.names.remove(text) == null) {
            throw new NoSuchElementException();
        }
        return own.names.size();
    }

    public int need(int number, int needed, int lowest, int end) {
        List<Need> needs = number == -1 ? application : at(number).needs;
        at(needed);
        if (number == needed || !in(lowest, 0, 999999) || !in(end, lowest + 1, 999999)) {
            throw new IllegalArgumentException();
        }
        if (needs.size() == (number == -1 ? 4 : 3)) {
            throw new IllegalStateException();
        }
        needs.add(new Need(needed, lowest, end));
        return needs.size();
    }

    public int dropNeeds(int number) {
        List<Need> needs = number == -1 ? application : at(number).needs;
        int had = needs.size();
        needs.clear();
        return had;
    }

    public int publish(int number) {
        Package own = at(number);
        if (own.versions.size() == 8) {
            throw new IllegalStateException();
        }
        int last = own.versions.isEmpty() ? 0 : own.versions.get(own.versions.size() - 1).number;
        int major = last / 10000;
        int minor = last / 100 % 100;
        int version = switch (judge(number)) {
            case 'f', 'M' -> 10000 * (major + 1);
            case 'm' -> 10000 * major + 100 * (minor + 1);
            default -> last + 1;
        };
        if (version % 10000 == 0) {
            majors++;
        }
        own.versions.add(new Version(version, new TreeMap<>(own.names), List.copyOf(own.needs)));
        return version;
    }

    public char judge(int number) {
        Package own = at(number);
        if (own.versions.isEmpty()) {
            return 'f';
        }
        Map<String, Integer> last = own.versions.get(own.versions.size() - 1).names;
        boolean kept = last.keySet().stream()
                .allMatch(name -> own.names.containsKey(name) && alike(last.get(name), own.names.get(name)));
        if (!kept) {
            return 'M';
        }
        return own.names.size() == last.size() ? 'p' : 'm';
    }

    /** The best choice of all that hold, each package with null or a version; null if none holds. */
    private Version[] best(List<Need> needs) {
        Version[] best = null;
        int[] sizes = new int[4];
        int all = 1;
        for (int i = 0; i < 4; i++) {
            sizes[i] = i < packages.size() ? packages.get(i).versions.size() + 1 : 1;
            all *= sizes[i];
        }
        for (int code = 0; code < all; code++) {
            Version[] choice = new Version[4];
            int rest = code;
            for (int i = 0; i < 4; i++) {
                int index = rest % sizes[i] - 1;
                rest /= sizes[i];
                choice[i] = index < 0 ? null : packages.get(i).versions.get(index);
            }
            if (holds(choice, needs) && (best == null || Arrays.compare(numbers(choice), numbers(best)) > 0)) {
                best = choice;
            }
        }
        return best;
    }

    private static int[] numbers(Version[] choice) {
        return Arrays.stream(choice).mapToInt(version -> version == null ? 0 : version.number).toArray();
    }

    private static boolean holds(Version[] choice, List<Need> needs) {
        List<Need> open = new ArrayList<>(needs);
        boolean[] needed = new boolean[4];
        for (int i = 0; i < open.size(); i++) {
            Need need = open.get(i);
            Version version = choice[need.needed];
            if (version == null || !in(version.number, need.lowest, need.end - 1)) {
                return false;
            }
            if (!needed[need.needed]) {
                needed[need.needed] = true;
                open.addAll(version.needs);
            }
        }
        for (int i = 0; i < 4; i++) {
            if (needed[i] != (choice[i] != null)) {
                return false;
            }
        }
        return true;
    }

    private Version[] best() {
        Version[] best = best(application);
        if (best == null) {
            throw new UnsupportedOperationException();
        }
        return best;
    }

    public int solve() {
        return (int) Arrays.stream(best()).filter(version -> version != null).count();
    }

    public int chosen(int number) {
        at(number);
        return numbers(best())[number];
    }

    public int blame() {
        if (best(application) != null) {
            throw new IllegalStateException();
        }
        for (int i = 0; i < application.size(); i++) {
            List<Need> others = new ArrayList<>(application);
            others.remove(i);
            if (best(others) != null) {
                return i;
            }
        }
        throw new NoSuchElementException();
    }

    private static int distance(String one, String other) {
        if (one.isEmpty() || other.isEmpty()) {
            return one.length() + other.length();
        }
        int m = one.length();
        int n = other.length();
        int[][] rows = new int[m + 1][n + 1];
        for (int sum = 0; sum <= m + n; sum++) {
            for (int i = Math.max(0, sum - n); i <= Math.min(m, sum); i++) {
                int j = sum - i;
                int least = i == 0 || j == 0 ? sum : Integer.MAX_VALUE;
                if (i > 0 && j > 0) {
                    least = Math.min(rows[i - 1][j], rows[i][j - 1]) + 1;
                    boolean same = one.charAt(i - 1) == other.charAt(j - 1);
                    least = Math.min(least, rows[i - 1][j - 1] + (same ? 0 : 1));
                }
                if (i > 1 && j > 1) {
                    String turned = new StringBuilder(one.substring(i - 2, i)).reverse().toString();
                    if (turned.equals(other.substring(j - 2, j))) {
                        least = Math.min(least, rows[i - 2][j - 2] + 1);
                    }
                }
                rows[i][j] = least;
            }
        }
        return rows[m][n];
    }

    public int advise(int number) {
        String text = text();
        Package own = at(number);
        if (own.versions.isEmpty() || own.versions.get(own.versions.size() - 1).names.isEmpty()) {
            throw new NoSuchElementException();
        }
        int least = Integer.MAX_VALUE;
        for (String name : own.versions.get(own.versions.size() - 1).names.keySet()) {
            if (distance(text, name) < least) {
                least = distance(text, name);
                written = name;
            }
        }
        return least;
    }

    public char writtenAt(int index) {
        if (!in(index, 0, written.length() - 1)) {
            throw new IndexOutOfBoundsException();
        }
        return written.charAt(index);
    }

    public float majorShare() {
        int all = packages.stream().mapToInt(own -> own.versions.size()).sum();
        if (all == 0) {
            throw new ArithmeticException();
        }
        return (float) majors / (float) all;
    }

    public double meanCost() {
        needRunning();
        if (costs.isEmpty()) {
            throw new ArithmeticException();
        }
        return (double) costs.stream().mapToInt(i -> i).sum() / (double) costs.size();
    }
}
