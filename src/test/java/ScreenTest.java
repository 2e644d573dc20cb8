/** Promises 18 to 25 and 42: blocks, drawing, costs, items, laziness, and the mean cost. */
public final class ScreenTest {
    public static void main(String[] args) {
        checkAddingBlocks();
        checkItems();
        checkRepeating();
        checkCosts();
        checkMoves();
        checkTryingLimit();
        checkTryingChangesNothing();
        checkLaziness();
        checkLazinessOverStarts();
        checkCurrentness();
        checkMeanCost();
        Check.end();
    }

    /** A message of the kind k adds its load to the field k. */
    private static ElmLedger begin(int... numbers) {
        ElmLedger x = new ElmLedger();
        for (int i = 0; i < numbers.length; i++) {
            x.addField(numbers[i]);
            x.addStep(i, 'l', i, 0);
        }
        return x;
    }

    private static void add(ElmLedger x, int field, int load) {
        x.send(field, load);
        x.update(1);
    }

    private static void checkAddingBlocks() {
        ElmLedger x = begin(0);
        for (char kind : "CFRxblv".toCharArray()) {
            Check.fails("addBlock " + kind, IllegalArgumentException.class, () -> x.addBlock(kind, 0, 0, false));
        }
        for (int field : new int[] {-1, 4, Integer.MAX_VALUE, Integer.MIN_VALUE}) {
            Check.fails("addBlock f " + field, IllegalArgumentException.class,
                    () -> x.addBlock('f', field, 0, true));
            Check.fails("addBlock r " + field, IllegalArgumentException.class,
                    () -> x.addBlock('r', field, 0, false));
        }
        Check.is("block 0", 0, () -> x.addBlock('c', Integer.MIN_VALUE, -4, true));
        Check.is("block 1", 1, () -> x.addBlock('f', 3, 9, false));
        Check.is("block 2", 2, () -> x.addBlock('r', 0, 9, false));
        Check.is("block 3", 3, () -> x.addBlock('c', Integer.MAX_VALUE, 6, false));
        Check.is("block 4", 4, () -> x.addBlock('c', 0, 7, false));
        Check.is("block 5", 5, () -> x.addBlock('f', 0, 0, false));
        Check.fails("a seventh block", IllegalStateException.class, () -> x.addBlock('c', 0, 0, false));
        Check.fails("a seventh block of no kind", IllegalArgumentException.class,
                () -> x.addBlock('q', 0, 0, false));
        Check.fails("a seventh block of no field", IllegalArgumentException.class,
                () -> x.addBlock('f', 4, 0, false));
        x.start();
        x.draw();
        expect(x, "blocks", 0, -4, 10, 0, 30, 6, 40, 7, 50, 0);
    }

    /** Keys and texts by turns. */
    private static void expect(ElmLedger x, String what, int... due) {
        Check.is(what + ": items", due.length / 2, x::items);
        for (int i = 0; i < due.length / 2; i++) {
            int place = i;
            Check.is(what + ": key " + i, due[2 * i], () -> x.keyAt(place));
            Check.is(what + ": text " + i, due[2 * i + 1], () -> x.textAt(place));
        }
        for (int place : new int[] {-1, due.length / 2, 36, Integer.MAX_VALUE, Integer.MIN_VALUE}) {
            Check.fails(what + ": key " + place, IndexOutOfBoundsException.class, () -> x.keyAt(place));
            Check.fails(what + ": text " + place, IndexOutOfBoundsException.class, () -> x.textAt(place));
        }
    }

    private static void checkItems() {
        ElmLedger x = begin(2, -7);
        x.addBlock('r', 0, 100, false);
        x.addBlock('f', 1, 55, false);
        expect(x, "nothing runs");
        x.start();
        expect(x, "nothing is drawn");
        Check.is("the first drawing", 6, x::draw);
        expect(x, "drawn", 0, 100, 1, 101, 10, -7);
        add(x, 0, 2);
        expect(x, "drawn stays as it is", 0, 100, 1, 101, 10, -7);
        x.draw();
        expect(x, "drawn again", 0, 100, 1, 101, 2, 102, 3, 103, 10, -7);
        x.start();
        expect(x, "a start empties it");
    }

    private static void checkRepeating() {
        ElmLedger x = begin(0);
        x.addBlock('r', 0, Integer.MAX_VALUE, false);
        x.start();
        x.draw();
        expect(x, "no items");
        add(x, 0, -3);
        x.draw();
        expect(x, "less than none");
        add(x, 0, 6);
        x.draw();
        expect(x, "three, falling, texts that go round", 2, Integer.MIN_VALUE + 1, 1, Integer.MIN_VALUE,
                0, Integer.MAX_VALUE);
        add(x, 0, 3);
        x.draw();
        Check.is("six", 6, x::items);
        Check.is("six rise", 0, () -> x.keyAt(0));
        add(x, 0, 1);
        x.draw();
        Check.is("seven are six", 6, x::items);
        Check.is("seven fall", 5, () -> x.keyAt(0));
        add(x, 0, 1);
        x.draw();
        Check.is("eight are six", 6, x::items);
        Check.is("eight rise", 0, () -> x.keyAt(0));
    }

    private static void drawBoth(ElmLedger x, String what, int due) {
        Check.is(what + ", by trying", due, x::costByTrying);
        Check.is(what, due, x::draw);
        Check.is(what + ", again", 0, x::draw);
        Check.is(what + ", by trying again", 0, x::costByTrying);
    }

    private static void checkCosts() {
        ElmLedger x = begin(1, 5);
        x.addBlock('f', 1, 0, false);
        x.addBlock('r', 0, 0, false);
        x.start();
        drawBoth(x, "two new ones", 4);
        add(x, 1, 1);
        drawBoth(x, "another text", 1);
        add(x, 0, 2);
        drawBoth(x, "two new ones round one that stays", 4);
        add(x, 0, -3);
        drawBoth(x, "three are taken away", 3);
        add(x, 0, 2);
        drawBoth(x, "two new ones behind", 4);
        x.addBlock('c', 0, 4, false);
        add(x, 1, 1);
        drawBoth(x, "a new block and another text", 3);
        add(x, 0, 1);
        drawBoth(x, "one new one, and one of two moves", 3);
    }

    private static void checkMoves() {
        ElmLedger x = begin(6, 4);
        x.addBlock('r', 0, 0, false);
        x.addBlock('c', 0, 1, false);
        x.addBlock('r', 1, 0, false);
        x.start();
        drawBoth(x, "eleven new ones", 22);
        add(x, 0, 1);
        drawBoth(x, "six fall: five move", 5);
        add(x, 1, -1);
        drawBoth(x, "one away, and two of three move", 3);
        add(x, 0, -1);
        add(x, 1, 1);
        drawBoth(x, "five move, two move, one new", 9);
        add(x, 0, 94);
        add(x, 1, 3);
        Check.is("three of four move, two new, by trying", 7, x::costByTrying);
        Check.is("three of four move, two new", 7, x::draw);
    }

    private static void checkTryingLimit() {
        Check.fails("costByTrying when nothing runs", IllegalStateException.class,
                () -> new ElmLedger().costByTrying());
        ElmLedger x = begin(6, 0);
        x.addBlock('r', 0, 0, false);
        x.addBlock('r', 0, 0, false);
        x.addBlock('r', 1, 0, false);
        x.start();
        x.draw();
        add(x, 0, 1);
        add(x, 1, 6);
        Check.is("twelve stay, six are new", 22, x::costByTrying);
        Check.is("the same by drawing", 22, x::draw);
        Check.fails("eighteen stay", UnsupportedOperationException.class, x::costByTrying);
        add(x, 1, -5);
        Check.fails("thirteen stay", UnsupportedOperationException.class, x::costByTrying);
        add(x, 1, -1);
        Check.is("twelve stay", 6, x::costByTrying);
    }

    private static void checkTryingChangesNothing() {
        ElmLedger x = begin(2);
        x.addBlock('r', 0, 0, true);
        x.start();
        x.costByTrying();
        Check.is("nothing is drawn by it", 0, x::items);
        x.draw();
        x.costByTrying();
        Check.is("nothing is skipped by it", 0, x::skipped);
        add(x, 0, 1);
        x.costByTrying();
        x.isCurrent();
        Check.is("the drawn screen stays", 2, x::items);
        Check.is("no drawing is counted", 4.0, x::meanCost);
    }

    private static void checkLaziness() {
        ElmLedger x = begin(2, 3);
        x.addBlock('c', 0, 1, true);
        x.addBlock('f', 0, 0, true);
        x.addBlock('r', 1, 40, true);
        x.addBlock('f', 0, 0, false);
        x.addBlock('f', 3, 0, true);
        Check.is("skipped when nothing runs", 0, x::skipped);
        x.start();
        x.draw();
        Check.is("the first drawing skips none", 0, x::skipped);
        x.draw();
        Check.is("three are lazy, a field that is not there too", 3, x::skipped);
        add(x, 0, 1);
        x.draw();
        Check.is("one has another number", 5, x::skipped);
        expect(x, "with what was skipped", 0, 1, 10, 3, 22, 42, 21, 41, 20, 40, 30, 3, 40, 0);
        x.addBlock('f', 1, 0, true);
        x.draw();
        Check.is("a new block is found anew", 8, x::skipped);
        x.draw();
        Check.is("but only once", 12, x::skipped);
        add(x, 1, 5);
        add(x, 1, -5);
        x.draw();
        Check.is("the same number as at the last drawing", 16, x::skipped);
        add(x, 1, 1);
        x.draw();
        add(x, 1, -1);
        x.draw();
        Check.is("the last drawing counts, not an earlier one", 20, x::skipped);
        expect(x, "found anew", 0, 1, 10, 3, 22, 42, 21, 41, 20, 40, 30, 3, 40, 0, 50, 3);
    }

    private static void checkLazinessOverStarts() {
        ElmLedger x = begin(2);
        x.addBlock('f', 0, 0, true);
        x.start();
        x.draw();
        x.draw();
        Check.is("skipped", 1, x::skipped);
        x.start();
        Check.is("a start sets it back", 0, x::skipped);
        Check.is("the first drawing of the new program", 2, x::draw);
        Check.is("skips none", 0, x::skipped);
        expect(x, "and has its item", 0, 2);
        x.draw();
        x.addStep(0, 'x', 0, 0);
        x.load();
        x.draw();
        Check.is("loading sets nothing back", 2, x::skipped);
        expect(x, "the first item was skipped", 0, 2);
    }

    private static void checkCurrentness() {
        Check.fails("isCurrent when nothing runs", IllegalStateException.class, () -> new ElmLedger().isCurrent());
        ElmLedger x = begin(2, 1);
        x.start();
        Check.is("nothing drawn, no blocks", true, x::isCurrent);
        x.addBlock('r', 0, 0, true);
        Check.is("a block is not drawn", false, x::isCurrent);
        x.draw();
        Check.is("drawn", true, x::isCurrent);
        add(x, 1, 1);
        Check.is("another field does not count", true, x::isCurrent);
        add(x, 0, 1);
        Check.is("one item more", false, x::isCurrent);
        add(x, 0, 3);
        x.draw();
        Check.is("six items", true, x::isCurrent);
        add(x, 0, 2);
        Check.is("eight look the same", true, x::isCurrent);
        add(x, 0, 1);
        Check.is("nine stand in another order", false, x::isCurrent);
        x.addBlock('f', 1, 0, false);
        x.draw();
        x.travel(0);
        Check.is("travel", false, x::isCurrent);
        x.travel(x.logged());
        Check.is("travel back", true, x::isCurrent);
        add(x, 1, 1);
        Check.is("another text", false, x::isCurrent);
        ElmLedger y = begin(3);
        y.addBlock('f', 0, 0, true);
        y.addBlock('c', 0, 0, true);
        y.start();
        y.draw();
        add(y, 0, 1);
        Check.is("another text of the first item alone", false, y::isCurrent);
    }

    private static void checkMeanCost() {
        ElmLedger x = begin(1);
        x.addBlock('r', 0, 0, false);
        Check.fails("meanCost when nothing runs", IllegalStateException.class, x::meanCost);
        Check.fails("draw when nothing runs", IllegalStateException.class, x::draw);
        x.start();
        Check.fails("meanCost when nothing was drawn", ArithmeticException.class, x::meanCost);
        x.draw();
        Check.is("one drawing", 2.0, x::meanCost);
        x.draw();
        Check.is("two drawings", 1.0, x::meanCost);
        add(x, 0, 1);
        x.draw();
        Check.is("three drawings", 4.0 / 3.0, x::meanCost);
        x.start();
        Check.fails("meanCost after a start", ArithmeticException.class, x::meanCost);
        x.dropFields();
        x.start();
        x.draw();
        Check.is("a drawing without cost", 0.0, x::meanCost);
    }
}
