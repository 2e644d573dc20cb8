/** Promises 1 to 6: a new object, the typed text, and drafts of programs. */
public final class DraftTest {
    public static void main(String[] args) {
        checkNewObject();
        checkTyping();
        checkFields();
        checkStepRanges();
        checkStepCounts();
        checkStarting();
        Check.end();
    }

    private static void checkNewObject() {
        ElmLedger x = new ElmLedger();
        Check.is("new pending", 0, x::pending);
        Check.is("new logged", 0, x::logged);
        Check.is("new items", 0, x::items);
        Check.is("new skipped", 0, x::skipped);
        Check.is("new dropFields", 0, x::dropFields);
        Check.is("new solve", 0, x::solve);
        Check.fails("new send", IllegalStateException.class, () -> x.send(0, 0));
        Check.fails("new update", IllegalStateException.class, () -> x.update(1));
        Check.fails("new tick", IllegalStateException.class, x::tick);
        Check.fails("new field", IllegalStateException.class, () -> x.field(0));
        Check.fails("new fieldByLog", IllegalStateException.class, () -> x.fieldByLog(0));
        Check.fails("new travel", IllegalStateException.class, () -> x.travel(0));
        Check.fails("new change", IllegalStateException.class, () -> x.change(0, 0, 0));
        Check.fails("new load", IllegalStateException.class, x::load);
        Check.fails("new draw", IllegalStateException.class, x::draw);
        Check.fails("new costByTrying", IllegalStateException.class, x::costByTrying);
        Check.fails("new isCurrent", IllegalStateException.class, x::isCurrent);
        Check.fails("new meanCost", IllegalStateException.class, x::meanCost);
        Check.fails("new majorShare", ArithmeticException.class, x::majorShare);
        Check.fails("new areAlike", IndexOutOfBoundsException.class, () -> x.areAlike(0, 0));
        Check.fails("new judge", IndexOutOfBoundsException.class, () -> x.judge(0));
        Check.fails("new writtenAt", IndexOutOfBoundsException.class, () -> x.writtenAt(0));
        Check.fails("new keyAt", IndexOutOfBoundsException.class, () -> x.keyAt(0));
        Check.fails("new blame", IllegalStateException.class, x::blame);
    }

    private static void checkTyping() {
        ElmLedger x = new ElmLedger();
        for (char letter : new char[] {'`', '{', 'A', 'Z', '0', ' ', (char) 0, (char) 225, (char) 65535}) {
            Check.fails("type " + (int) letter, IllegalArgumentException.class, () -> x.type(letter));
        }
        Check.is("type a", 1, () -> x.type('a'));
        Check.is("type z", 2, () -> x.type('z'));
        for (int i = 3; i <= 8; i++) {
            Check.is("type letter " + i, i, () -> x.type('m'));
        }
        Check.fails("type a ninth", IllegalStateException.class, () -> x.type('m'));
        Check.fails("type no letter as a ninth", IllegalArgumentException.class, () -> x.type('M'));
        Check.fails("the text is taken by hide", IndexOutOfBoundsException.class, () -> x.hide(0));
        Check.is("type anew", 1, () -> x.type('b'));
        Check.fails("no letter", IllegalArgumentException.class, () -> x.type('B'));
        Check.is("what no letter left", 2, () -> x.type('b'));
    }

    private static void checkFields() {
        ElmLedger x = new ElmLedger();
        int[] numbers = {Integer.MIN_VALUE, Integer.MAX_VALUE, 0, -7};
        for (int i = 0; i < 4; i++) {
            int number = numbers[i];
            Check.is("addField " + i, i, () -> x.addField(number));
        }
        Check.fails("addField a fifth", IllegalStateException.class, () -> x.addField(1));
        Check.is("start with 4", 4, x::start);
        for (int i = 0; i < 4; i++) {
            int field = i;
            Check.is("field " + i, numbers[i], () -> x.field(field));
        }
        Check.is("dropFields", 4, x::dropFields);
        Check.is("dropFields again", 0, x::dropFields);
        Check.is("a running field stays", -7, () -> x.field(3));
        Check.is("addField after a drop", 0, () -> x.addField(5));
        Check.is("start with 1", 1, x::start);
        Check.is("field after a drop", 5, () -> x.field(0));
    }

    private static void checkStepRanges() {
        ElmLedger x = new ElmLedger();
        for (char step : "salcke".toCharArray()) {
            refuse(x, -1, step, 0, 1);
            refuse(x, 5, step, 0, 1);
            refuse(x, 0, step, -1, 1);
            refuse(x, 0, step, step == 'e' ? 5 : 4, 1);
        }
        for (char step : "ce".toCharArray()) {
            refuse(x, 0, step, 0, -1);
            refuse(x, 0, step, 0, 4);
        }
        refuse(x, 0, 'k', 0, 0);
        refuse(x, 0, 'k', 0, 8);
        refuse(x, 0, 'k', 0, -1);
        refuse(x, 5, 'x', 0, 0);
        refuse(x, -1, 'x', 0, 0);
        for (char step : "SALCKEXbdfrvw \u00e9".toCharArray()) {
            refuse(x, 0, step, 0, 1);
        }
        accept(x, 4, 's', 3, Integer.MIN_VALUE);
        accept(x, 3, 'a', 3, Integer.MAX_VALUE);
        accept(x, 2, 'l', 3, -99);
        accept(x, 1, 'c', 3, 3);
        accept(x, 0, 'k', 3, 7);
        accept(x, 0, 'k', 0, 1);
        accept(x, 0, 'e', 4, 3);
        accept(x, 0, 'e', 0, 0);
    }

    private static void refuse(ElmLedger x, int kind, char step, int a, int b) {
        Check.fails("addStep " + kind + step + a + " " + b, IllegalArgumentException.class,
                () -> x.addStep(kind, step, a, b));
    }

    private static void accept(ElmLedger x, int kind, char step, int a, int b) {
        x.addStep(kind, 'x', -1, 9);
        Check.is("addStep " + kind + step + a + " " + b, 1, () -> x.addStep(kind, step, a, b));
    }

    private static void checkStepCounts() {
        ElmLedger x = new ElmLedger();
        for (int kind = 0; kind < 5; kind++) {
            int of = kind;
            for (int i = 1; i <= 8; i++) {
                Check.is("step " + i + " of kind " + kind, i, () -> x.addStep(of, 'a', 0, 1));
            }
            Check.fails("a ninth step", IllegalStateException.class, () -> x.addStep(of, 'a', 0, 1));
            Check.fails("a ninth step that is none", IllegalArgumentException.class, () -> x.addStep(of, 'q', 0, 1));
        }
        x.addField(0);
        x.start();
        x.send(2, 0);
        x.update(1);
        Check.is("eight steps", 8, () -> x.field(0));
        Check.is("emptied at the limit", 0, () -> x.addStep(2, 'x', Integer.MIN_VALUE, Integer.MAX_VALUE));
        Check.is("the first one behind that", 1, () -> x.addStep(2, 's', 0, 70));
        x.send(2, 0);
        x.update(1);
        Check.is("the running program keeps its steps", 16, () -> x.field(0));
        x.start();
        x.send(2, 0);
        x.send(3, 0);
        x.update(2);
        Check.is("only one kind is emptied", 78, () -> x.field(0));
        Check.is("dropFields leaves the steps", 1, x::dropFields);
        Check.is("the second one", 2, () -> x.addStep(2, 'a', 0, 1));
    }

    private static void checkStarting() {
        ElmLedger x = new ElmLedger();
        Check.is("start without anything", 0, x::start);
        Check.fails("no field", IndexOutOfBoundsException.class, () -> x.field(0));
        x.addField(3);
        x.addStep(0, 'a', 0, 1);
        x.addStep(0, 'e', 1, 0);
        Check.is("start", 1, x::start);
        x.send(0, 0);
        x.send(0, 0);
        x.send(0, 0);
        x.update(2);
        x.tick();
        x.send(0, 0);
        x.update(1);
        Check.is("ahead of a new start", 103, x::pending);
        Check.is("logged ahead of a new start", 3, x::logged);
        Check.is("start anew", 1, x::start);
        Check.is("pending", 0, x::pending);
        Check.is("logged", 0, x::logged);
        Check.is("field", 3, () -> x.field(0));
        Check.is("position", 0, () -> x.travel(0));
        x.addStep(1, 'l', 0, 0);
        x.subscribe(0, 1, 1);
        x.start();
        x.tick();
        x.update(1);
        Check.is("the tick is 1 again", 4, () -> x.field(0));
    }
}
