import java.util.NoSuchElementException;

/** Promises 39 and 40: names that are near, and what is written. */
public final class AdviceTest {
    public static void main(String[] args) {
        checkDistances();
        checkNearest();
        checkVersions();
        checkExceptions();
        Check.end();
    }

    private static ElmLedger with(String... names) {
        ElmLedger x = new ElmLedger();
        x.addType('b', 0, 0);
        x.addPackage();
        for (String name : names) {
            RegistryTest.expose(x, 0, name, 0);
        }
        x.publish(0);
        return x;
    }

    private static int advise(ElmLedger x, String text) {
        RegistryTest.type(x, text);
        return x.advise(0);
    }

    private static void written(ElmLedger x, String what, String due) {
        for (int i = 0; i < due.length(); i++) {
            int index = i;
            Check.is(what + ": letter " + i, due.charAt(i), () -> x.writtenAt(index));
        }
        for (int index : new int[] {-1, due.length(), Integer.MAX_VALUE, Integer.MIN_VALUE}) {
            Check.fails(what + ": letter " + index, IndexOutOfBoundsException.class, () -> x.writtenAt(index));
        }
    }

    private static void distance(String name, String text, int due) {
        Check.is(name + " from " + text, due, () -> advise(with(name), text));
        if (!text.isEmpty()) {
            Check.is(text + " from " + name, due, () -> advise(with(text), name));
        }
    }

    private static void checkDistances() {
        distance("map", "map", 0);
        distance("map", "", 3);
        distance("abcdefgh", "", 8);
        distance("map", "mapp", 1);
        distance("map", "ap", 1);
        distance("map", "mep", 1);
        distance("map", "amp", 1);
        distance("map", "mpa", 1);
        distance("map", "pma", 2);
        distance("ca", "abc", 3);
        distance("ab", "ba", 1);
        distance("abcd", "badc", 2);
        distance("abc", "cba", 2);
        distance("kitten", "sitting", 3);
        distance("abcdefgh", "hgfedcba", 7);
        distance("aaaaaaaa", "bbbbbbbb", 8);
        distance("a", "bbbbbbba", 7);
        distance("foldl", "foldr", 1);
        distance("abab", "baba", 2);
        distance("abb", "bab", 1);
        distance("xaby", "xbay", 1);
        distance("xaby", "bayx", 3);
    }

    private static void checkNearest() {
        ElmLedger x = with("fold", "filter", "map", "foldr", "fo", "foldl");
        written(x, "nothing yet", "");
        Check.is("fold", 0, () -> advise(x, "fold"));
        written(x, "fold", "fold");
        Check.is("foldx", 1, () -> advise(x, "foldx"));
        written(x, "foldx", "fold");
        Check.is("of foldl and foldr", 1, () -> advise(x, "oldl"));
        written(x, "oldl", "foldl");
        Check.is("of two the first by the alphabet", 1, () -> advise(x, "foldlr"));
        written(x, "foldlr", "foldl");
        Check.is("without a text the shortest", 2, () -> advise(x, ""));
        written(x, "empty", "fo");
        Check.is("filer", 1, () -> advise(x, "filer"));
        written(x, "filer", "filter");
        ElmLedger y = with("bb", "b", "ab", "ba");
        Check.is("a shorter one comes first", 1, () -> advise(y, "bbb"));
        written(y, "bbb", "bb");
        Check.is("three at the distance 1", 1, () -> advise(y, "a"));
        written(y, "a", "ab");
        ElmLedger z = with("abc", "ab");
        Check.is("one is the beginning of the other", 1, () -> advise(z, "abd"));
        written(z, "abd", "ab");
    }

    private static void checkVersions() {
        ElmLedger x = with("one", "two");
        RegistryTest.hide(x, 0, "one");
        RegistryTest.expose(x, 0, "once", 0);
        Check.is("the draft does not count", 0, () -> advise(x, "one"));
        written(x, "one", "one");
        x.publish(0);
        Check.is("only the latest version counts", 1, () -> advise(x, "one"));
        written(x, "once", "once");
        RegistryTest.hide(x, 0, "once");
        RegistryTest.hide(x, 0, "two");
        x.publish(0);
        Check.fails("it has no names", NoSuchElementException.class, () -> advise(x, "one"));
        written(x, "what was written stays", "once");
    }

    private static void checkExceptions() {
        ElmLedger x = new ElmLedger();
        x.addType('b', 0, 0);
        x.addPackage();
        RegistryTest.type(x, "abc");
        Check.fails("no package 1", IndexOutOfBoundsException.class, () -> x.advise(1));
        Check.is("the text was taken", 1, () -> x.type('a'));
        Check.fails("no package -1", IndexOutOfBoundsException.class, () -> x.advise(-1));
        RegistryTest.expose(x, 0, "abc", 0);
        Check.fails("no version", NoSuchElementException.class, () -> advise(x, "abc"));
        Check.is("the text was taken again", 1, () -> x.type('a'));
        x.publish(0);
        Check.is("one letter was typed", 2, () -> x.advise(0));
        Check.is("the text was taken by an answer", 1, () -> x.type('a'));
    }
}
