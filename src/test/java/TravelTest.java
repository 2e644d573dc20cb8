/** Promises 14 to 17: travel, changing the log, loading, and the length of the log. */
public final class TravelTest {
    public static void main(String[] args) {
        checkTravel();
        checkDropping();
        checkChanging();
        checkLoading();
        checkQuietness();
        Check.end();
    }

    private static ElmLedger count() {
        ElmLedger x = new ElmLedger();
        x.addField(0);
        x.addField(50);
        x.addStep(0, 'l', 0, 0);
        x.addStep(1, 'l', 1, 0);
        x.addStep(2, 's', 0, 3);
        x.addStep(2, 's', 1, 4);
        x.addStep(3, 'l', 0, 0);
        x.addStep(3, 'e', 0, 0);
        return x;
    }

    private static ElmLedger runFour() {
        ElmLedger x = count();
        x.start();
        for (int i = 1; i <= 4; i++) {
            x.send(0, i);
        }
        x.update(4);
        return x;
    }

    private static void checkTravel() {
        ElmLedger nothing = count();
        Check.fails("travel when nothing runs", IllegalStateException.class, () -> nothing.travel(-1));
        ElmLedger x = runFour();
        Check.fails("travel to -1", IndexOutOfBoundsException.class, () -> x.travel(-1));
        Check.fails("travel to 5", IndexOutOfBoundsException.class, () -> x.travel(5));
        Check.is("travel to 0", 4, () -> x.travel(0));
        Check.is("field at 0", 0, () -> x.field(0));
        Check.is("travel to 3", 0, () -> x.travel(3));
        Check.is("field at 3", 6, () -> x.field(0));
        Check.is("travel to where it is", 3, () -> x.travel(3));
        Check.is("travel to the end", 3, () -> x.travel(4));
        Check.is("field at the end", 10, () -> x.field(0));
        Check.is("the log stays", 4, x::logged);
        Check.is("it was at the end", 4, () -> x.travel(4));
    }

    private static void checkDropping() {
        ElmLedger x = runFour();
        x.travel(1);
        Check.is("an update without messages", 0, () -> x.update(5));
        Check.is("drops nothing", 4, x::logged);
        Check.is("and stays", 1, () -> x.travel(1));
        x.send(0, 100);
        Check.is("sending drops nothing", 4, x::logged);
        x.tick();
        Check.is("a tick drops nothing", 4, x::logged);
        x.update(1);
        Check.is("an update drops what is behind the position", 2, x::logged);
        Check.is("field", 101, () -> x.field(0));
        Check.is("the position is the end", 2, () -> x.travel(2));
        Check.fails("what is dropped is gone", IndexOutOfBoundsException.class, () -> x.travel(3));
        Check.fails("and can not be changed", IndexOutOfBoundsException.class, () -> x.change(2, 0, 0));
    }

    private static void checkChanging() {
        ElmLedger nothing = count();
        Check.fails("change when nothing runs", IllegalStateException.class, () -> nothing.change(-1, 9, 0));
        ElmLedger x = runFour();
        Check.fails("change -1", IndexOutOfBoundsException.class, () -> x.change(-1, 9, 0));
        Check.fails("change 4", IndexOutOfBoundsException.class, () -> x.change(4, 9, 0));
        Check.fails("change to kind -1", IllegalArgumentException.class, () -> x.change(0, -1, 0));
        Check.fails("change to kind 5", IllegalArgumentException.class, () -> x.change(0, 5, 0));
        Check.is("change one field", 1, () -> x.change(0, 0, 11));
        Check.is("field", 20, () -> x.field(0));
        Check.is("change nothing", 0, () -> x.change(0, 0, 11));
        Check.is("change both fields", 2, () -> x.change(1, 1, 2));
        Check.is("field 0", 18, () -> x.field(0));
        Check.is("field 1", 52, () -> x.field(1));
        Check.is("the last one sets both", 2, () -> x.change(3, 2, 0));
        Check.is("what is ahead of it counts no more", 0, () -> x.change(0, 0, -1000));
        x.travel(2);
        Check.is("behind the position", 0, () -> x.change(2, 0, 7));
        Check.is("field at 2", -1000, () -> x.field(0));
        x.travel(3);
        Check.is("it was changed", -993, () -> x.field(0));
        Check.is("the log stays", 4, x::logged);
    }

    private static void checkLoading() {
        ElmLedger nothing = count();
        Check.fails("load when nothing runs", IllegalStateException.class, nothing::load);
        ElmLedger x = runFour();
        Check.is("load the same", 0, x::load);
        x.addField(1);
        Check.fails("load one more field", UnsupportedOperationException.class, x::load);
        x.dropFields();
        x.addField(1000);
        Check.fails("load one field less", UnsupportedOperationException.class, x::load);
        x.addField(50);
        Check.is("load another beginning", 1, x::load);
        Check.is("field", 1010, () -> x.field(0));
        x.addStep(0, 'a', 1, -1);
        Check.is("steps of the draft do not count yet", 50, () -> x.fieldByLog(1));
        x.travel(3);
        Check.is("load other steps", 1, x::load);
        Check.is("over the messages up to the position", 47, () -> x.field(1));
        Check.is("the log stays", 4, x::logged);
        x.travel(4);
        Check.is("and all of them", 46, () -> x.field(1));
        x.addStep(0, 's', 0, 0);
        x.addStep(0, 's', 1, 0);
        Check.is("load both fields", 2, x::load);
    }

    private static void checkQuietness() {
        ElmLedger x = count();
        x.start();
        x.subscribe(1, 0, 3);
        x.tick();
        x.tick();
        x.send(3, 5);
        x.send(3, 6);
        x.send(1, 1);
        x.update(2);
        Check.is("two effects wait", 201, x::pending);
        x.travel(0);
        Check.is("travel leaves them", 201, x::pending);
        x.travel(2);
        Check.is("travel makes none", 201, x::pending);
        x.change(0, 3, 9);
        Check.is("changing makes none", 201, x::pending);
        x.load();
        Check.is("loading makes none", 201, x::pending);
        x.fieldByLog(0);
        Check.is("finding makes none", 201, x::pending);
        Check.is("the tick stays", 3, x::tick);
        x.update(20);
        Check.is("9 and 6, the effects 5 and 11, the tick 3", 34, () -> x.field(0));
    }
}
