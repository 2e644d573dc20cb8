import java.util.NoSuchElementException;

/** Promises 29 to 35 and 41: packages, names, needs, versions, and the share of major ones. */
public final class RegistryTest {
    public static void main(String[] args) {
        checkPackages();
        checkExposing();
        checkHiding();
        checkNeeds();
        checkDroppingNeeds();
        checkPublishing();
        checkJudging();
        checkMajorShare();
        Check.end();
    }

    static void type(ElmLedger x, String text) {
        for (char letter : text.toCharArray()) {
            x.type(letter);
        }
    }

    static int expose(ElmLedger x, int number, String text, int type) {
        type(x, text);
        return x.expose(number, type);
    }

    static int hide(ElmLedger x, int number, String text) {
        type(x, text);
        return x.hide(number);
    }

    private static void checkPackages() {
        ElmLedger x = new ElmLedger();
        for (int i = 0; i < 4; i++) {
            int number = i;
            Check.fails("no package " + i, IndexOutOfBoundsException.class, () -> x.judge(number));
            Check.is("addPackage " + i, i, x::addPackage);
            Check.is("package " + i, 'f', () -> x.judge(number));
        }
        Check.fails("addPackage a fifth", IllegalStateException.class, x::addPackage);
        for (int number : new int[] {-1, 4, Integer.MAX_VALUE, Integer.MIN_VALUE}) {
            Check.fails("judge " + number, IndexOutOfBoundsException.class, () -> x.judge(number));
            Check.fails("publish " + number, IndexOutOfBoundsException.class, () -> x.publish(number));
            Check.fails("chosen " + number, IndexOutOfBoundsException.class, () -> x.chosen(number));
            Check.fails("advise " + number, IndexOutOfBoundsException.class, () -> x.advise(number));
        }
    }

    private static void checkExposing() {
        ElmLedger x = new ElmLedger();
        x.addType('v', 0, 0);
        x.addType('b', 0, 0);
        x.addPackage();
        Check.fails("package 1", IndexOutOfBoundsException.class, () -> expose(x, 1, "a", 0));
        Check.is("the text was taken", 1, () -> x.type('z'));
        Check.fails("package -1", IndexOutOfBoundsException.class, () -> x.expose(-1, 0));
        Check.fails("type 2", IndexOutOfBoundsException.class, () -> expose(x, 0, "a", 2));
        Check.fails("type -1", IndexOutOfBoundsException.class, () -> x.expose(0, -1));
        Check.fails("no type, and no text", IndexOutOfBoundsException.class, () -> x.expose(0, 2));
        Check.fails("no text", IllegalArgumentException.class, () -> x.expose(0, 0));
        Check.is("abcdefgh", 1, () -> expose(x, 0, "abcdefgh", 0));
        Check.is("abcdefg", 2, () -> expose(x, 0, "abcdefg", 0));
        Check.is("abcdefgh again", 2, () -> expose(x, 0, "abcdefgh", 1));
        Check.is("a", 3, () -> expose(x, 0, "a", 1));
        Check.is("b", 4, () -> expose(x, 0, "b", 1));
        Check.is("ab", 5, () -> expose(x, 0, "ab", 1));
        Check.is("ba", 6, () -> expose(x, 0, "ba", 1));
        Check.fails("no text, and six names", IllegalArgumentException.class, () -> x.expose(0, 0));
        Check.fails("a seventh name", IllegalStateException.class, () -> expose(x, 0, "c", 1));
        Check.is("the text was taken by a seventh", 1, () -> x.type('a'));
        Check.is("a sixth name again", 6, () -> x.expose(0, 0));
        Check.fails("the text was taken", IllegalArgumentException.class, () -> x.expose(0, 0));
        x.publish(0);
        Check.is("a type that is not alike", 6, () -> expose(x, 0, "ba", 0));
        Check.is("took the place of the other", 'M', () -> x.judge(0));
        x.addPackage();
        Check.is("each package has its own", 1, () -> expose(x, 1, "c", 1));
    }

    private static void checkHiding() {
        ElmLedger x = new ElmLedger();
        x.addType('b', 0, 0);
        x.addPackage();
        x.addPackage();
        expose(x, 0, "one", 0);
        expose(x, 0, "two", 0);
        expose(x, 0, "three", 0);
        Check.fails("hide of no package", IndexOutOfBoundsException.class, () -> hide(x, 2, "one"));
        Check.fails("the text was taken", NoSuchElementException.class, () -> x.hide(0));
        Check.fails("hide of -1", IndexOutOfBoundsException.class, () -> x.hide(-1));
        Check.fails("no such name", NoSuchElementException.class, () -> hide(x, 0, "on"));
        Check.is("the text was taken again", 1, () -> x.type('o'));
        Check.fails("a part of a name", NoSuchElementException.class, () -> hide(x, 0, "nex"));
        Check.fails("a name of another package", NoSuchElementException.class, () -> hide(x, 1, "one"));
        Check.is("hide the second one", 2, () -> hide(x, 0, "two"));
        Check.fails("it is gone", NoSuchElementException.class, () -> hide(x, 0, "two"));
        Check.is("hide the last one", 1, () -> hide(x, 0, "three"));
        Check.is("hide the first one", 0, () -> hide(x, 0, "one"));
        Check.is("expose again", 1, () -> expose(x, 0, "two", 0));
    }

    private static void checkNeeds() {
        ElmLedger x = new ElmLedger();
        Check.fails("no packages", IndexOutOfBoundsException.class, () -> x.need(-1, 0, 5, 5));
        x.addPackage();
        x.addPackage();
        Check.fails("number -2", IndexOutOfBoundsException.class, () -> x.need(-2, 0, 5, 5));
        Check.fails("number 2", IndexOutOfBoundsException.class, () -> x.need(2, 0, 5, 5));
        Check.fails("needed -1", IndexOutOfBoundsException.class, () -> x.need(-1, -1, 5, 5));
        Check.fails("needed 2", IndexOutOfBoundsException.class, () -> x.need(0, 2, 5, 5));
        Check.fails("itself", IllegalArgumentException.class, () -> x.need(0, 0, 1, 2));
        Check.fails("lowest -1", IllegalArgumentException.class, () -> x.need(0, 1, -1, 5));
        Check.fails("end is lowest", IllegalArgumentException.class, () -> x.need(0, 1, 5, 5));
        Check.fails("end is less", IllegalArgumentException.class, () -> x.need(0, 1, 5, 4));
        Check.fails("end is too great", IllegalArgumentException.class, () -> x.need(0, 1, 5, 1000000));
        Check.fails("both are too great", IllegalArgumentException.class,
                () -> x.need(0, 1, 999999, Integer.MAX_VALUE));
        Check.fails("lowest at its greatest leaves no end", IllegalArgumentException.class,
                () -> x.need(0, 1, 999999, 999999));
        Check.is("the widest", 1, () -> x.need(0, 1, 0, 999999));
        Check.is("the narrowest", 2, () -> x.need(0, 1, 999998, 999999));
        Check.is("a third", 3, () -> x.need(0, 1, 0, 1));
        Check.fails("a fourth", IllegalStateException.class, () -> x.need(0, 1, 0, 1));
        Check.fails("a fourth of itself", IllegalArgumentException.class, () -> x.need(0, 0, 0, 1));
        for (int i = 1; i <= 4; i++) {
            int count = i;
            Check.is("of the application " + i, count, () -> x.need(-1, 0, 0, count));
        }
        Check.fails("a fifth of the application", IllegalStateException.class, () -> x.need(-1, 0, 0, 1));
        Check.fails("a fifth that is wrong", IllegalArgumentException.class, () -> x.need(-1, 0, 1, 1));
        Check.is("of another package", 1, () -> x.need(1, 0, 0, 1));
    }

    private static void checkDroppingNeeds() {
        ElmLedger x = new ElmLedger();
        Check.is("of the application, without packages", 0, () -> x.dropNeeds(-1));
        x.addPackage();
        x.addPackage();
        x.need(0, 1, 0, 1);
        x.need(0, 1, 0, 1);
        x.need(-1, 1, 0, 1);
        for (int number : new int[] {-2, 2, Integer.MAX_VALUE, Integer.MIN_VALUE}) {
            Check.fails("dropNeeds " + number, IndexOutOfBoundsException.class, () -> x.dropNeeds(number));
        }
        Check.is("none", 0, () -> x.dropNeeds(1));
        Check.is("two", 2, () -> x.dropNeeds(0));
        Check.is("none are left", 0, () -> x.dropNeeds(0));
        Check.is("one of the application", 1, () -> x.dropNeeds(-1));
        Check.is("none of the application are left", 0, () -> x.dropNeeds(-1));
        Check.is("the first one again", 1, () -> x.need(0, 1, 0, 1));
    }

    private static void checkPublishing() {
        ElmLedger x = new ElmLedger();
        x.addType('b', 0, 0);
        x.addPackage();
        x.addPackage();
        Check.is("the first one", 10000, () -> x.publish(0));
        Check.is("a patch", 10001, () -> x.publish(0));
        Check.is("a patch of a patch", 10002, () -> x.publish(0));
        expose(x, 0, "a", 0);
        Check.is("a minor one", 10100, () -> x.publish(0));
        Check.is("a patch of a minor one", 10101, () -> x.publish(0));
        expose(x, 0, "b", 0);
        Check.is("a second minor one", 10200, () -> x.publish(0));
        hide(x, 0, "a");
        expose(x, 0, "c", 0);
        expose(x, 0, "d", 0);
        Check.is("a major one, also with more names", 20000, () -> x.publish(0));
        Check.is("a patch of a major one", 20001, () -> x.publish(0));
        Check.fails("a ninth", IllegalStateException.class, () -> x.publish(0));
        Check.is("a judgement of a ninth", 'p', () -> x.judge(0));
        Check.is("the other package", 10000, () -> x.publish(1));
        Check.is("needs make a patch", 1, () -> x.need(1, 0, 0, 1));
        Check.is("of the other package", 10001, () -> x.publish(1));
    }

    private static void checkJudging() {
        ElmLedger x = new ElmLedger();
        int a = x.addType('v', 0, 0);
        int b = x.addType('v', 1, 0);
        int base = x.addType('b', 0, 0);
        int ab = x.addType('f', a, b);
        int ba = x.addType('f', b, a);
        int aa = x.addType('f', a, a);
        x.addPackage();
        expose(x, 0, "f", ab);
        Check.is("first", 'f', () -> x.judge(0));
        Check.is("judging publishes nothing", 'f', () -> x.judge(0));
        x.publish(0);
        Check.is("patch", 'p', () -> x.judge(0));
        expose(x, 0, "f", ba);
        Check.is("an alike type is a patch", 'p', () -> x.judge(0));
        expose(x, 0, "g", base);
        Check.is("one name more is minor", 'm', () -> x.judge(0));
        expose(x, 0, "f", aa);
        Check.is("a less general type is major", 'M', () -> x.judge(0));
        expose(x, 0, "f", ab);
        hide(x, 0, "g");
        Check.is("back to a patch", 'p', () -> x.judge(0));
        hide(x, 0, "f");
        Check.is("a name less is major", 'M', () -> x.judge(0));
        expose(x, 0, "g", ab);
        Check.is("another name is major", 'M', () -> x.judge(0));
        x.publish(0);
        Check.is("the version ahead counts", 'p', () -> x.judge(0));
        expose(x, 0, "f", ab);
        Check.is("not the versions ahead of it", 'm', () -> x.judge(0));
    }

    private static void checkMajorShare() {
        ElmLedger x = new ElmLedger();
        x.addType('b', 0, 0);
        x.addPackage();
        x.addPackage();
        Check.fails("none is published", ArithmeticException.class, x::majorShare);
        x.publish(0);
        Check.is("the first one", 1.0f, x::majorShare);
        x.publish(0);
        Check.is("one of two", 0.5f, x::majorShare);
        expose(x, 0, "a", 0);
        x.publish(0);
        Check.is("one of three", 1.0f / 3.0f, x::majorShare);
        hide(x, 0, "a");
        x.publish(0);
        x.publish(0);
        Check.is("two of five", 2.0f / 5.0f, x::majorShare);
        x.publish(1);
        Check.is("three of six", 0.5f, x::majorShare);
    }
}
