/** Promises 26 to 28: types, which are alike, and which are more general. */
public final class TypeTest {
    public static void main(String[] args) {
        checkAdding();
        checkLimits();
        checkAlike();
        checkGeneral();
        checkLargest();
        Check.end();
    }

    private static void checkAdding() {
        ElmLedger x = new ElmLedger();
        for (char kind : "VBFPxa".toCharArray()) {
            Check.fails("addType " + kind, IllegalArgumentException.class, () -> x.addType(kind, 0, 0));
        }
        for (int sign : new int[] {-1, 6, Integer.MAX_VALUE, Integer.MIN_VALUE}) {
            Check.fails("variable " + sign, IllegalArgumentException.class, () -> x.addType('v', sign, 0));
            Check.fails("base " + sign, IllegalArgumentException.class, () -> x.addType('b', sign, 0));
        }
        Check.fails("a function of no type", IndexOutOfBoundsException.class, () -> x.addType('f', 0, 0));
        Check.is("variable 5", 0, () -> x.addType('v', 5, 0));
        Check.is("base 5", 1, () -> x.addType('b', 5, -1));
        Check.is("variable 5 again", 0, () -> x.addType('v', 5, 99));
        Check.is("base 5 again", 1, () -> x.addType('b', 5, 99));
        for (int number : new int[] {-1, 2, Integer.MAX_VALUE, Integer.MIN_VALUE}) {
            for (char kind : "fp".toCharArray()) {
                Check.fails("from " + number, IndexOutOfBoundsException.class, () -> x.addType(kind, number, 0));
                Check.fails("to " + number, IndexOutOfBoundsException.class, () -> x.addType(kind, 0, number));
            }
        }
        Check.is("a function", 2, () -> x.addType('f', 0, 1));
        Check.is("a pair", 3, () -> x.addType('p', 0, 1));
        Check.is("the other way round", 4, () -> x.addType('f', 1, 0));
        Check.is("the function again", 2, () -> x.addType('f', 0, 1));
        Check.is("the pair again", 3, () -> x.addType('p', 0, 1));
        Check.is("of a function", 5, () -> x.addType('f', 2, 2));
        Check.is("variable 0", 6, () -> x.addType('v', 0, 0));
    }

    private static void checkLimits() {
        ElmLedger x = new ElmLedger();
        x.addType('v', 0, 0);
        for (int i = 0; i < 5; i++) {
            x.addType('p', i, i);
        }
        Check.is("8 and 32 are 40", 6, () -> x.addType('f', 3, 5));
        Check.fails("1 and 40 are 41", UnsupportedOperationException.class, () -> x.addType('f', 0, 6));
        Check.fails("40 and 1 are 41", UnsupportedOperationException.class, () -> x.addType('p', 6, 0));
        Check.fails("40 and 40 are 80", UnsupportedOperationException.class, () -> x.addType('f', 6, 6));
        Check.fails("nothing was added", IndexOutOfBoundsException.class, () -> x.areAlike(7, 0));
        for (int i = 7; i < 40; i++) {
            int number = i;
            int sign = i % 6;
            if (i < 13) {
                Check.is("base " + sign, number, () -> x.addType('b', sign, 0));
            } else if (i < 19) {
                Check.is("pair of " + (i - 6), number, () -> x.addType('p', number - 6, number - 6));
            } else {
                Check.is("from " + (i - 12), number, () -> x.addType('f', 0, number - 12));
            }
        }
        Check.fails("a 41st type", IllegalStateException.class, () -> x.addType('v', 1, 0));
        Check.fails("a 41st type that is too large", IllegalStateException.class, () -> x.addType('f', 6, 6));
        Check.fails("a 41st type that is none", IllegalArgumentException.class, () -> x.addType('q', 0, 0));
        Check.fails("a 41st type of no types", IndexOutOfBoundsException.class, () -> x.addType('f', 40, 0));
        Check.is("a type that is there", 6, () -> x.addType('f', 3, 5));
        Check.is("a variable that is there", 0, () -> x.addType('v', 0, 0));
    }

    private static int both(ElmLedger x, int one, int other, boolean alike, boolean general, boolean back) {
        Check.is("alike " + one + " " + other, alike, () -> x.areAlike(one, other));
        Check.is("alike " + other + " " + one, alike, () -> x.areAlike(other, one));
        Check.is("general " + one + " " + other, general, () -> x.isGeneral(one, other));
        Check.is("general " + other + " " + one, back, () -> x.isGeneral(other, one));
        return 0;
    }

    private static void checkAlike() {
        ElmLedger x = new ElmLedger();
        int a = x.addType('v', 0, 0);
        int b = x.addType('v', 1, 0);
        int m = x.addType('b', 0, 0);
        int n = x.addType('b', 1, 0);
        int ab = x.addType('f', a, b);
        int ba = x.addType('f', b, a);
        int aa = x.addType('f', a, a);
        int bb = x.addType('f', b, b);
        int pair = x.addType('p', a, b);
        for (int number : new int[] {-1, pair + 1, 40, Integer.MAX_VALUE, Integer.MIN_VALUE}) {
            Check.fails("alike " + number, IndexOutOfBoundsException.class, () -> x.areAlike(number, a));
            Check.fails("alike to " + number, IndexOutOfBoundsException.class, () -> x.areAlike(a, number));
            Check.fails("general " + number, IndexOutOfBoundsException.class, () -> x.isGeneral(number, a));
            Check.fails("general to " + number, IndexOutOfBoundsException.class, () -> x.isGeneral(a, number));
        }
        both(x, a, b, true, true, true);
        both(x, a, a, true, true, true);
        both(x, m, m, true, true, true);
        both(x, m, n, false, false, false);
        both(x, a, m, false, true, false);
        both(x, ab, ba, true, true, true);
        both(x, aa, bb, true, true, true);
        both(x, ab, aa, false, true, false);
        both(x, ab, pair, false, false, false);
        both(x, a, ab, false, true, false);
        int abA = x.addType('f', ab, a);
        int baB = x.addType('f', ba, b);
        int baA = x.addType('f', ba, a);
        both(x, abA, baB, true, true, true);
        both(x, abA, baA, false, false, false);
        int mA = x.addType('f', m, a);
        int aM = x.addType('f', a, m);
        both(x, mA, aM, false, false, false);
    }

    private static void checkGeneral() {
        ElmLedger x = new ElmLedger();
        int a = x.addType('v', 0, 0);
        int b = x.addType('v', 1, 0);
        int m = x.addType('b', 0, 0);
        int n = x.addType('b', 1, 0);
        int aa = x.addType('p', a, a);
        int ab = x.addType('p', a, b);
        int mm = x.addType('p', m, m);
        int mn = x.addType('p', m, n);
        both(x, aa, mm, false, true, false);
        both(x, aa, mn, false, false, false);
        both(x, ab, mn, false, true, false);
        int deep = x.addType('p', aa, aa);
        int mixed = x.addType('p', aa, ab);
        both(x, aa, deep, false, true, false);
        both(x, aa, mixed, false, false, false);
        both(x, ab, mixed, false, true, false);
        int swapped = x.addType('p', ab, x.addType('p', b, a));
        both(x, ab, swapped, false, true, false);
        int toItself = x.addType('p', a, ab);
        both(x, ab, toItself, false, true, false);
        both(x, aa, toItself, false, false, false);
        int am = x.addType('p', a, m);
        both(x, am, mm, false, true, false);
        both(x, ab, am, false, true, false);
        both(x, am, aa, false, false, false);
    }

    private static void checkLargest() {
        ElmLedger x = new ElmLedger();
        x.addType('v', 0, 0);
        x.addType('v', 1, 0);
        int left = 0;
        for (int i = 1; i < 38; i++) {
            left = x.addType('f', left, 0);
        }
        int deepest = left;
        Check.is("alike to itself", true, () -> x.areAlike(deepest, deepest));
        Check.is("more general than itself", true, () -> x.isGeneral(deepest, deepest));
        Check.is("a variable is more general", true, () -> x.isGeneral(1, deepest));
        Check.is("a variable is not alike", false, () -> x.areAlike(1, deepest));

        ElmLedger y = new ElmLedger();
        y.addType('v', 0, 0);
        for (int i = 0; i < 5; i++) {
            y.addType('p', i, i);
        }
        y.addType('p', 5, 3);
        y.addType('v', 1, 0);
        int wide = y.addType('p', 5, y.addType('p', 2, y.addType('p', 1, y.addType('p', 0, 7))));
        int left5 = y.addType('p', 7, 0);
        for (int i = 1; i < 5; i++) {
            left5 = y.addType('p', left5, i);
        }
        int first = y.addType('p', left5, 3);
        Check.is("the first leaf is another variable", false, () -> y.areAlike(first, 6));
        Check.is("the first leaf can not be put", false, () -> y.isGeneral(6, first));
        Check.is("forty leaves, the first one put", true, () -> y.isGeneral(first, 6));
        Check.is("forty leaves alike to themselves", true, () -> y.areAlike(6, 6));
        Check.is("the last leaf is another variable", false, () -> y.areAlike(wide, 6));
        Check.is("forty leaves more general than themselves", true, () -> y.isGeneral(6, 6));

        ElmLedger z = new ElmLedger();
        int one = z.addType('v', 0, 0);
        int other = z.addType('v', 1, 0);
        int end = z.addType('v', 2, 0);
        int right = z.addType('p', one, other);
        int rightOther = z.addType('p', other, end);
        for (int i = 0; i < 16; i++) {
            right = z.addType('p', one, right);
            rightOther = z.addType('p', other, rightOther);
        }
        int rights = right;
        int others = rightOther;
        Check.is("long rows alike", true, () -> z.areAlike(rights, others));
        Check.is("long rows general", true, () -> z.isGeneral(rights, others));
    }
}
