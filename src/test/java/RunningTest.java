/** Promises 7 to 13: sending, updating, ticks, subscriptions, fields and what waits. */
public final class RunningTest {
    public static void main(String[] args) {
        checkSending();
        checkUpdating();
        checkUpdateLimits();
        checkSteps();
        checkStepsWithoutFields();
        checkLeavingOut();
        checkTicks();
        checkFullTicks();
        checkSubscribing();
        checkSubscriptions();
        checkFields();
        checkManyEffects();
        Check.end();
    }

    private static ElmLedger begin(int... numbers) {
        ElmLedger x = new ElmLedger();
        for (int number : numbers) {
            x.addField(number);
        }
        return x;
    }

    private static void checkSending() {
        ElmLedger x = begin(0);
        Check.fails("send when nothing runs", IllegalStateException.class, () -> x.send(9, 0));
        x.start();
        Check.fails("send kind -1", IllegalArgumentException.class, () -> x.send(-1, 0));
        Check.fails("send kind 5", IllegalArgumentException.class, () -> x.send(5, 0));
        for (int i = 1; i <= 40; i++) {
            int kind = i % 5;
            Check.is("send " + i, i, () -> x.send(kind, 1));
        }
        Check.fails("send a 41st", IllegalStateException.class, () -> x.send(0, 1));
        Check.fails("send a 41st of no kind", IllegalStateException.class, () -> x.send(5, 1));
        Check.is("pending", 40, x::pending);
        x.update(1);
        Check.is("send behind an update", 40, () -> x.send(0, 1));
    }

    private static void checkUpdating() {
        ElmLedger x = begin(0, 0);
        x.addStep(0, 'l', 0, 0);
        x.addStep(1, 'c', 1, 0);
        Check.fails("update when nothing runs", IllegalStateException.class, () -> x.update(0));
        x.start();
        Check.is("update without messages", 0, () -> x.update(3));
        x.send(0, 5);
        x.send(1, 0);
        x.send(0, 7);
        Check.is("update 2", 2, () -> x.update(2));
        Check.is("the first field", 5, () -> x.field(0));
        Check.is("the second field", 5, () -> x.field(1));
        Check.is("one is left", 1, x::pending);
        Check.is("update as long as there are messages", 1, () -> x.update(20));
        Check.is("the first field then", 12, () -> x.field(0));
        Check.is("logged", 3, x::logged);
    }

    private static void checkUpdateLimits() {
        ElmLedger x = begin(0);
        x.addStep(0, 'a', 0, 1);
        x.start();
        for (int number : new int[] {0, -1, 21, Integer.MAX_VALUE, Integer.MIN_VALUE}) {
            Check.fails("update " + number, IllegalArgumentException.class, () -> x.update(number));
        }
        for (int round = 0; round < 2; round++) {
            for (int i = 0; i < 20; i++) {
                x.send(0, 0);
            }
            Check.is("update 20", 20, () -> x.update(20));
        }
        Check.is("update up to 60 without messages", 0, () -> x.update(20));
        x.send(0, 0);
        Check.is("update 1", 1, () -> x.update(1));
        Check.fails("update beyond 60, also without messages", IllegalArgumentException.class, () -> x.update(20));
        for (int i = 0; i < 20; i++) {
            x.send(0, 0);
        }
        Check.is("update up to 60", 19, () -> x.update(19));
        Check.fails("update at 60", IllegalArgumentException.class, () -> x.update(1));
        Check.is("logged", 60, x::logged);
        Check.is("field", 60, () -> x.field(0));
        x.travel(40);
        Check.is("the position counts, not the log", 1, () -> x.update(20));
        Check.is("logged after travel", 41, x::logged);
    }

    private static void checkSteps() {
        ElmLedger x = begin(Integer.MAX_VALUE, 3, 4);
        x.addStep(0, 'a', 0, 1);
        x.addStep(0, 's', 1, -8);
        x.addStep(0, 'l', 2, 77);
        x.addStep(1, 'c', 2, 1);
        x.addStep(1, 'e', 3, 2);
        x.addStep(1, 'a', 2, 10);
        x.addStep(1, 'e', 4, 2);
        x.addStep(3, 'l', 0, 0);
        x.addStep(4, 'l', 1, 0);
        x.start();
        x.send(0, Integer.MAX_VALUE);
        x.update(1);
        Check.is("a sum goes round", Integer.MIN_VALUE, () -> x.field(0));
        Check.is("a field is set", -8, () -> x.field(1));
        Check.is("the load goes round", Integer.MIN_VALUE + 3, () -> x.field(2));
        x.send(1, 0);
        x.send(2, 99);
        x.update(2);
        Check.is("a copy, then a sum", 2, () -> x.field(2));
        Check.is("two effects wait", 200, x::pending);
        x.tick();
        x.update(20);
        Check.is("the load of the first effect", Integer.MIN_VALUE - 8, () -> x.field(0));
        Check.is("the load of the second effect", -6, () -> x.field(1));
    }

    private static void checkStepsWithoutFields() {
        ElmLedger x = begin(5);
        x.addStep(0, 's', 1, 9);
        x.addStep(0, 'a', 2, 9);
        x.addStep(0, 'l', 3, 0);
        x.addStep(0, 'c', 0, 1);
        x.addStep(0, 'c', 1, 0);
        x.addStep(0, 'e', 0, 1);
        x.addStep(0, 'k', 1, 7);
        x.addStep(0, 'a', 0, 1);
        x.start();
        x.send(0, 100);
        x.update(1);
        Check.is("only the last step counts", 6, () -> x.field(0));
        Check.is("no effect waits", 0, x::pending);
        x.dropFields();
        x.start();
        x.send(0, 1);
        Check.is("without fields at all", 1, () -> x.update(1));
    }

    private static void checkLeavingOut() {
        ElmLedger x = begin(5);
        x.addStep(0, 'k', 0, 2);
        x.addStep(0, 'a', 0, 1);
        x.addStep(0, 'k', 0, 7);
        x.addStep(0, 'a', 0, 10);
        x.addStep(1, 'a', 0, 100);
        x.start();
        x.send(0, 5);
        x.update(1);
        Check.is("not less leaves nothing out", 16, () -> x.field(0));
        x.start();
        x.send(0, 6);
        x.update(1);
        Check.is("less leaves out two", 15, () -> x.field(0));
        x.start();
        x.addStep(0, 'x', 0, 0);
        x.addStep(0, 'k', 0, 7);
        x.addStep(0, 'a', 0, 10);
        x.start();
        x.send(0, 6);
        x.send(1, 6);
        x.update(2);
        Check.is("what is left out ends with the kind", 105, () -> x.field(0));
    }

    private static void checkTicks() {
        ElmLedger x = begin(1, 0);
        x.addStep(0, 'e', 2, 0);
        x.addStep(0, 'a', 0, 1);
        x.addStep(0, 'e', 3, 0);
        x.addStep(2, 'l', 1, 0);
        x.addStep(4, 'l', 1, 0);
        x.addStep(4, 'a', 1, 1000);
        x.start();
        Check.is("a tick without anything", 0, x::tick);
        x.send(0, 0);
        x.update(1);
        x.subscribe(0, 4, 1);
        x.send(1, 0);
        Check.is("two effects and a subscription", 3, x::tick);
        Check.is("four in the queue", 4, x::pending);
        x.update(2);
        Check.is("the first effect came first, behind what was sent", 1, () -> x.field(1));
        x.update(1);
        Check.is("the second effect is of another kind", 1, () -> x.field(1));
        x.update(1);
        Check.is("the tick is the load", 1003, () -> x.field(1));
        Check.is("effects do not come twice", 1, x::tick);
        x.update(1);
        Check.is("the tick is the load again", 2006, () -> x.field(1));
    }

    private static void checkFullTicks() {
        ElmLedger x = begin(1);
        x.addStep(0, 'e', 1, 0);
        x.addStep(1, 'l', 0, 0);
        x.subscribe(0, 1, 2);
        x.start();
        x.send(0, 0);
        x.update(1);
        for (int i = 0; i < 39; i++) {
            x.send(2, 0);
        }
        Check.is("a tick up to 40", 1, x::tick);
        Check.fails("a tick beyond 40 by a subscription", IllegalStateException.class, x::tick);
        Check.is("nothing changed", 40, x::pending);
        x.update(1);
        Check.is("the tick was not counted", 1, x::tick);
        x.update(20);
        x.update(20);
        Check.is("1, 1 by the effect, 2 by the tick", 4, () -> x.field(0));
        x.start();
        x.send(0, 0);
        x.update(1);
        for (int i = 0; i < 40; i++) {
            x.send(2, 0);
        }
        Check.fails("a tick beyond 40 by an effect", IllegalStateException.class, x::tick);
        Check.is("the effect still waits", 140, x::pending);
    }

    private static void checkSubscribing() {
        ElmLedger x = begin();
        int[][] wrong = {{-1, 0, 1}, {4, 0, 1}, {0, -1, 1}, {0, 5, 1}, {0, 0, 0}, {0, 0, 10}, {0, 0, -1}};
        for (int[] numbers : wrong) {
            Check.fails("subscribe " + numbers[0] + numbers[1] + numbers[2], IllegalArgumentException.class,
                    () -> x.subscribe(numbers[0], numbers[1], numbers[2]));
        }
        Check.is("subscribe 0", 0, () -> x.subscribe(0, 0, 1));
        Check.is("subscribe 1", 1, () -> x.subscribe(3, 4, 9));
        Check.is("subscribe 2", 2, () -> x.subscribe(3, 4, 9));
        Check.is("subscribe 3", 3, () -> x.subscribe(0, 0, 5));
        Check.fails("subscribe a fifth", IllegalStateException.class, () -> x.subscribe(0, 0, 5));
        Check.fails("subscribe a fifth out of range", IllegalArgumentException.class, () -> x.subscribe(0, 0, 10));
    }

    private static void checkSubscriptions() {
        ElmLedger x = begin(1, 0, 1);
        x.addStep(0, 's', 0, 0);
        x.addStep(3, 's', 1, 4);
        x.subscribe(0, 1, 2);
        x.subscribe(1, 2, 2);
        x.subscribe(2, 1, 2);
        x.subscribe(3, 2, 1);
        x.start();
        Check.is("tick 1: no span", 0, x::tick);
        Check.is("tick 2: the same kind and span put one", 1, x::tick);
        x.send(0, 0);
        x.update(20);
        Check.is("tick 3", 0, x::tick);
        Check.is("tick 4: the other one puts it", 1, x::tick);
        x.send(3, 0);
        x.update(20);
        Check.is("tick 5", 0, x::tick);
        Check.is("tick 6: two of other kinds", 2, x::tick);
        x.start();
        x.tick();
        Check.is("they outlast the program", 1, x::tick);

        ElmLedger y = begin(1, 0);
        y.addStep(0, 'c', 1, 0);
        y.addStep(1, 'a', 0, 5);
        y.subscribe(0, 0, 2);
        y.subscribe(0, 1, 1);
        y.subscribe(0, 0, 1);
        y.subscribe(1, 0, 1);
        y.start();
        Check.is("another span is no same one", 2, y::tick);
        y.update(20);
        Check.is("the order is that of the numbers", 6, () -> y.field(1));
        Check.is("of three two have the same kind and span", 3, y::tick);
    }

    private static void checkFields() {
        ElmLedger x = begin(7, -2);
        x.addStep(0, 'l', 0, 0);
        Check.fails("field when nothing runs", IllegalStateException.class, () -> x.field(9));
        Check.fails("fieldByLog when nothing runs", IllegalStateException.class, () -> x.fieldByLog(9));
        x.start();
        for (int number : new int[] {-1, 2, 4, Integer.MIN_VALUE, Integer.MAX_VALUE}) {
            Check.fails("field " + number, IndexOutOfBoundsException.class, () -> x.field(number));
            Check.fails("fieldByLog " + number, IndexOutOfBoundsException.class, () -> x.fieldByLog(number));
        }
        Check.is("field", -2, () -> x.field(1));
        Check.is("fieldByLog", -2, () -> x.fieldByLog(1));
        x.send(0, 3);
        x.send(0, 4);
        x.update(2);
        Check.is("field behind two", 14, () -> x.field(0));
        Check.is("fieldByLog behind two", 14, () -> x.fieldByLog(0));
        x.travel(1);
        Check.is("fieldByLog up to the position", 10, () -> x.fieldByLog(0));
        x.change(0, 0, 30);
        Check.is("fieldByLog over what is changed", 37, () -> x.fieldByLog(0));
        x.dropFields();
        x.addField(100);
        x.addField(0);
        Check.is("fieldByLog leaves the draft alone", 37, () -> x.fieldByLog(0));
        x.load();
        Check.is("fieldByLog by what is loaded", 130, () -> x.fieldByLog(0));
        Check.is("field by what is loaded", 130, () -> x.field(0));
    }

    private static void checkManyEffects() {
        ElmLedger x = begin(1);
        for (int i = 0; i < 8; i++) {
            x.addStep(0, 'e', 1, 0);
        }
        x.start();
        int effects = 0;
        for (int round = 0; round < 3; round++) {
            for (int i = 0; i < 40; i++) {
                x.send(0, 0);
            }
            x.travel(0);
            x.update(20);
            x.update(20);
            effects += 320;
            Check.is("effects of round " + round, 100 * effects, x::pending);
        }
        Check.fails("they never fit into the queue", IllegalStateException.class, x::tick);
        Check.is("they still wait", 100 * effects, x::pending);
        x.start();
        Check.is("a start forgets them", 0, x::pending);
        for (int i = 0; i < 5; i++) {
            x.send(0, 0);
        }
        x.update(5);
        Check.is("40 effects fit", 40, x::tick);
        Check.is("40 are in the queue", 40, x::pending);
    }
}
