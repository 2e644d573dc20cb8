import java.util.NoSuchElementException;

/** Promises 36 to 38: solving, what is chosen, and which need is to blame. */
public final class SolveTest {
    public static void main(String[] args) {
        checkWithoutNeeds();
        checkRanges();
        checkOrder();
        checkNeedsOfVersions();
        checkNobodyNeeds();
        checkLaterNeeds();
        checkAsIfNow();
        checkBlame();
        checkBlameOfSeveral();
        Check.end();
    }

    private static ElmLedger begin(int packages, int versions) {
        ElmLedger x = new ElmLedger();
        for (int i = 0; i < packages; i++) {
            x.addPackage();
            for (int j = 0; j < versions; j++) {
                x.publish(i);
            }
        }
        return x;
    }

    private static void expect(ElmLedger x, String what, int... due) {
        int count = 0;
        for (int i = 0; i < due.length; i++) {
            int number = i;
            count += due[i] > 0 ? 1 : 0;
            Check.is(what + ": chosen " + i, due[i], () -> x.chosen(number));
        }
        Check.is(what + ": solve", count, x::solve);
    }

    private static void expectNone(ElmLedger x, String what) {
        Check.fails(what + ": solve", UnsupportedOperationException.class, x::solve);
        Check.fails(what + ": chosen", UnsupportedOperationException.class, () -> x.chosen(0));
        Check.fails(what + ": chosen of no package", IndexOutOfBoundsException.class, () -> x.chosen(4));
    }

    private static void checkWithoutNeeds() {
        expect(begin(0, 0), "nothing");
        expect(begin(4, 8), "no needs", 0, 0, 0, 0);
        ElmLedger x = begin(2, 1);
        x.need(0, 1, 10000, 10001);
        x.publish(0);
        expect(x, "no needs of the application", 0, 0);
        Check.fails("there is a choice", IllegalStateException.class, x::blame);
    }

    private static void checkRanges() {
        ElmLedger x = begin(1, 4);
        x.need(-1, 0, 10001, 10003);
        expect(x, "ahead of the end", 10002);
        x.need(-1, 0, 10002, 10003);
        expect(x, "from the lowest on", 10002);
        x.need(-1, 0, 0, 10002);
        expectNone(x, "two that exclude one another");
        x.dropNeeds(-1);
        x.need(-1, 0, 10004, 999999);
        expectNone(x, "no version is so great");
        x.publish(0);
        expect(x, "now there is one", 10004);
        x.addPackage();
        x.need(-1, 1, 0, 999999);
        expectNone(x, "a package without versions");
    }

    private static void checkOrder() {
        ElmLedger x = begin(3, 1);
        x.need(2, 0, 10000, 10001);
        x.publish(2);
        x.dropNeeds(2);
        x.publish(0);
        x.publish(1);
        x.publish(1);
        x.need(-1, 2, 10000, 10002);
        expect(x, "the package 0 is preferred to be chosen", 10000, 0, 10001);
        x.need(-1, 0, 0, 999999);
        expect(x, "its greatest version, by a lesser one of the last", 10001, 0, 10000);
        x.need(-1, 1, 0, 999999);
        expect(x, "each its greatest", 10001, 10002, 10000);

        ElmLedger y = begin(3, 0);
        y.publish(1);
        y.publish(2);
        y.publish(2);
        y.publish(2);
        y.need(0, 2, 10001, 10002);
        y.publish(0);
        y.dropNeeds(0);
        y.need(0, 1, 0, 999999);
        y.need(0, 2, 10000, 10001);
        y.publish(0);
        y.need(-1, 0, 0, 999999);
        y.need(-1, 2, 0, 999999);
        expect(y, "the first one decides", 10001, 10000, 10000);
    }

    private static void checkNeedsOfVersions() {
        ElmLedger x = begin(4, 2);
        x.need(0, 1, 10001, 10002);
        x.publish(0);
        x.need(1, 2, 10000, 10001);
        x.publish(1);
        x.need(2, 3, 0, 999999);
        x.publish(2);
        x.need(-1, 0, 10002, 10003);
        expect(x, "needs of what is chosen", 10002, 10001, 0, 0);
        x.dropNeeds(-1);
        x.need(-1, 1, 10002, 10003);
        expect(x, "only of what is chosen", 0, 10002, 10000, 0);
        x.need(-1, 2, 0, 999999);
        expect(x, "the need of a version binds", 0, 10002, 10000, 0);
        x.dropNeeds(-1);
        x.need(-1, 2, 0, 999999);
        expect(x, "the greatest one needs another", 0, 0, 10002, 10001);
    }

    private static void checkNobodyNeeds() {
        ElmLedger x = begin(4, 0);
        x.need(0, 1, 0, 999999);
        x.publish(0);
        x.need(1, 0, 0, 999999);
        x.publish(1);
        x.publish(2);
        x.publish(3);
        x.need(-1, 2, 0, 999999);
        expect(x, "two that need one another are needed by nobody", 0, 0, 10000, 0);
        x.need(-1, 1, 0, 999999);
        expect(x, "one of them is needed", 10000, 10000, 10000, 0);
        x.dropNeeds(-1);
        x.need(-1, 0, 0, 999999);
        expect(x, "the other one is needed", 10000, 10000, 0, 0);
    }

    private static void checkLaterNeeds() {
        ElmLedger x = begin(4, 0);
        x.publish(0);
        x.publish(1);
        x.need(1, 0, 0, 999999);
        x.publish(1);
        x.need(2, 1, 0, 999999);
        x.publish(2);
        x.need(3, 2, 0, 999999);
        x.publish(3);
        x.need(-1, 3, 0, 999999);
        expect(x, "needs from the last to the first", 10000, 10001, 10000, 10000);
        x.need(-1, 1, 10000, 10001);
        expect(x, "a version without needs", 0, 10000, 10000, 10000);
    }

    private static void checkAsIfNow() {
        ElmLedger x = begin(2, 1);
        x.need(-1, 0, 0, 999999);
        expect(x, "ahead", 10000, 0);
        x.publish(0);
        expect(x, "a new version", 10001, 0);
        x.need(0, 1, 0, 999999);
        expect(x, "a need of the draft alone", 10001, 0);
        x.publish(0);
        expect(x, "a need of a version", 10002, 10000);
        x.dropNeeds(0);
        expect(x, "a version keeps its needs", 10002, 10000);
        x.dropNeeds(-1);
        expect(x, "no needs", 0, 0);
        Check.fails("chosen 2", IndexOutOfBoundsException.class, () -> x.chosen(2));
        Check.fails("chosen -1", IndexOutOfBoundsException.class, () -> x.chosen(-1));
    }

    private static void checkBlame() {
        ElmLedger x = begin(2, 1);
        x.need(-1, 0, 0, 999999);
        Check.fails("there is a choice", IllegalStateException.class, x::blame);
        x.need(-1, 1, 20000, 30000);
        Check.is("the second one", 1, x::blame);
        Check.fails("blame leaves no trace", UnsupportedOperationException.class, x::solve);
        x.need(-1, 0, 0, 999999);
        Check.is("still the second one", 1, x::blame);
        x.need(-1, 0, 20000, 30000);
        Check.fails("two have no version", NoSuchElementException.class, x::blame);
        x.dropNeeds(-1);
        x.need(-1, 0, 10001, 10002);
        Check.is("the only one", 0, x::blame);
    }

    private static void checkBlameOfSeveral() {
        ElmLedger x = begin(3, 2);
        x.need(2, 0, 10000, 10001);
        x.publish(2);
        x.need(-1, 1, 0, 999999);
        x.need(-1, 0, 10001, 10002);
        x.need(-1, 2, 10002, 10003);
        Check.is("either of two: the first one", 1, x::blame);
        x.need(-1, 0, 10001, 10003);
        Check.is("only without the third", 2, x::blame);
    }
}
