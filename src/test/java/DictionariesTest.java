/** Promises 11 to 19: dictionaries, their keys, and the cursor. */
public final class DictionariesTest {
    private static final int BAD = PageStore.BAD;
    private static final int NO = PageStore.NO;
    private static final int LEAST = Integer.MIN_VALUE;
    private static final int MOST = Integer.MAX_VALUE;
    private static final int[] NO_DICTIONARIES = {0, -1, 3, MOST, LEAST};
    private static final int[] NO_KEY_KINDS = {0, -1, 16, MOST, LEAST};
    private static final Check CHECK = new Check("DictionariesTest");

    public static void main(String[] args) {
        dictionary();
        define();
        find();
        found();
        undefine();
        count();
        next();
        cursor();
        CHECK.end();
    }

    private static PageStore withTwo() {
        PageStore x = new PageStore();
        x.dictionary();
        x.dictionary();
        return x;
    }

    private static void dictionary() {
        PageStore x = new PageStore();
        for (int d = 1; d <= 300; d++) {
            CHECK.due("dictionary()", x.dictionary(), d);
        }
        CHECK.due("count(300)", x.count(300), 0);
        CHECK.due("count(301)", x.count(301), BAD);
        CHECK.counts("after dictionaries", x, 0, 0, 0, 300, 0, 0);
    }

    private static void define() {
        PageStore x = withTwo();
        for (int kind = 1; kind <= 15; kind++) {
            CHECK.due("define(1, " + kind + ", 7, ..)", x.define(1, kind, 7, 15 - kind, kind), 1);
        }
        for (int kind = 1; kind <= 15; kind++) {
            CHECK.due("find(1, " + kind + ", 7)", x.find(1, kind, 7), 15 - kind);
            CHECK.due("found(1, " + kind + ", 7)", x.found(1, kind, 7), kind == 15 ? 0 : kind);
        }
        CHECK.due("define(1, 1, 7, 2, 3) again", x.define(1, 1, 7, 2, 3), 0);
        CHECK.due("define(2, 1, 7, 4, 5) elsewhere", x.define(2, 1, 7, 4, 5), 1);
        CHECK.due("found(1, 1, 7)", x.found(1, 1, 7), 3);
        CHECK.due("found(2, 1, 7)", x.found(2, 1, 7), 5);
        CHECK.due("define(1, 1, least, 0, 9)", x.define(1, 1, LEAST, 0, 9), 1);
        CHECK.due("found(1, 1, least): NULL's number", x.found(1, 1, LEAST), 0);
        CHECK.due("define(1, 1, 0, 1, most)", x.define(1, 1, 0, 1, MOST), 1);
        CHECK.due("found(1, 1, 0)", x.found(1, 1, 0), MOST);
        x.undefine(1, 1, 7);
        CHECK.due("define() of a key that is gone", x.define(1, 1, 7, 6, 6), 0);
        CHECK.due("find() of it", x.find(1, 1, 7), 6);
        for (int d : NO_DICTIONARIES) {
            CHECK.due("define(" + d + ", 1, 1, 1, 1)", x.define(d, 1, 1, 1, 1), BAD);
        }
        for (int kind : NO_KEY_KINDS) {
            CHECK.due("define(1, " + kind + ", 1, 1, 1)", x.define(1, kind, 1, 1, 1), BAD);
        }
        for (int kind : new int[] {-1, 16, MOST, LEAST}) {
            CHECK.due("define(1, 1, 1, " + kind + ", 1)", x.define(1, 1, 1, kind, 1), BAD);
            CHECK.due("define(1, 1, 7, " + kind + ", 1)", x.define(1, 1, 7, kind, 1), BAD);
        }
        CHECK.due("found(1, 1, 7) after BAD", x.found(1, 1, 7), 6);
        CHECK.counts("after defining", x, 0, 0, 0, 2, 18, 0);
    }

    private static void find() {
        PageStore x = withTwo();
        x.define(1, 5, 1, 3, 30);
        x.define(1, 5, 2, 0, 0);
        CHECK.due("find(1, 5, 1)", x.find(1, 5, 1), 3);
        CHECK.due("find(1, 5, 2): NULL is there", x.find(1, 5, 2), 0);
        CHECK.due("find(1, 5, 3)", x.find(1, 5, 3), NO);
        CHECK.due("find(1, 6, 1)", x.find(1, 6, 1), NO);
        CHECK.due("find(2, 5, 1)", x.find(2, 5, 1), NO);
        x.undefine(1, 5, 1);
        CHECK.due("find(1, 5, 1) when gone", x.find(1, 5, 1), NO);
        for (int d : NO_DICTIONARIES) {
            CHECK.due("find(" + d + ", 5, 1)", x.find(d, 5, 1), BAD);
        }
        for (int kind : NO_KEY_KINDS) {
            CHECK.due("find(1, " + kind + ", 1)", x.find(1, kind, 1), BAD);
        }
    }

    private static void found() {
        PageStore x = withTwo();
        x.define(1, 5, 1, 3, 30);
        x.define(1, 5, 2, 3, -1);
        CHECK.due("found(1, 5, 1)", x.found(1, 5, 1), 30);
        CHECK.due("found(1, 5, 2)", x.found(1, 5, 2), -1);
        CHECK.due("found(1, 5, 3)", x.found(1, 5, 3), 0);
        CHECK.due("found(2, 5, 1)", x.found(2, 5, 1), 0);
        x.undefine(1, 5, 1);
        CHECK.due("found(1, 5, 1) when gone", x.found(1, 5, 1), 0);
        for (int d : NO_DICTIONARIES) {
            CHECK.due("found(" + d + ", 5, 2)", x.found(d, 5, 2), 0);
        }
        for (int kind : NO_KEY_KINDS) {
            CHECK.due("found(1, " + kind + ", 2)", x.found(1, kind, 2), 0);
        }
    }

    private static void undefine() {
        PageStore x = withTwo();
        x.define(1, 5, 1, 3, 30);
        x.define(2, 5, 1, 3, 31);
        CHECK.due("undefine(1, 5, 2)", x.undefine(1, 5, 2), NO);
        CHECK.due("undefine(1, 4, 1)", x.undefine(1, 4, 1), NO);
        for (int d : NO_DICTIONARIES) {
            CHECK.due("undefine(" + d + ", 5, 1)", x.undefine(d, 5, 1), BAD);
        }
        for (int kind : NO_KEY_KINDS) {
            CHECK.due("undefine(1, " + kind + ", 1)", x.undefine(1, kind, 1), BAD);
        }
        CHECK.due("found(1, 5, 1) so far", x.found(1, 5, 1), 30);
        CHECK.due("undefine(1, 5, 1)", x.undefine(1, 5, 1), 1);
        CHECK.due("find(1, 5, 1)", x.find(1, 5, 1), NO);
        CHECK.due("found(2, 5, 1) stays", x.found(2, 5, 1), 31);
        CHECK.due("undefine(1, 5, 1) again", x.undefine(1, 5, 1), NO);
        CHECK.due("noted(0, 4): it has come all the same", x.noted(0, 4), 2);
    }

    private static void count() {
        PageStore x = withTwo();
        x.define(1, 5, 1, 0, 0);
        x.define(1, 5, 2, 1, 1);
        x.define(2, 5, 1, 1, 1);
        x.define(1, 5, 2, 2, 2);
        CHECK.due("count(1)", x.count(1), 2);
        CHECK.due("count(2)", x.count(2), 1);
        x.undefine(1, 5, 1);
        CHECK.due("count(1) without one", x.count(1), 1);
        x.define(1, 5, 1, 1, 1);
        CHECK.due("count(1) with it again", x.count(1), 2);
        for (int d : NO_DICTIONARIES) {
            CHECK.due("count(" + d + ")", x.count(d), BAD);
        }
    }

    private static void cursorAt(PageStore x, String when, int kind, int number) {
        CHECK.due("cursorKind() " + when, x.cursorKind(), kind);
        CHECK.due("cursorNumber() " + when, x.cursorNumber(), number);
    }

    private static void next() {
        PageStore x = withTwo();
        CHECK.due("next(1, 0, 0) of none", x.next(1, 0, 0), 0);
        x.define(1, 5, 10, 1, 1);
        x.define(2, 5, 99, 1, 1);
        x.define(1, 4, 10, 1, 1);
        x.define(1, 5, 11, 0, 0);
        CHECK.due("next(1, 0, any)", x.next(1, 0, 12345), 1);
        cursorAt(x, "at the first", 5, 10);
        CHECK.due("next(1, 5, 10)", x.next(1, 5, 10), 1);
        cursorAt(x, "at the second", 4, 10);
        CHECK.due("next(1, 4, 10)", x.next(1, 4, 10), 1);
        cursorAt(x, "at the third", 5, 11);
        for (int d : NO_DICTIONARIES) {
            CHECK.due("next(" + d + ", 5, 10)", x.next(d, 5, 10), BAD);
            CHECK.due("next(" + d + ", 0, 0)", x.next(d, 0, 0), BAD);
        }
        for (int kind : new int[] {-1, 16, MOST, LEAST}) {
            CHECK.due("next(1, " + kind + ", 10)", x.next(1, kind, 10), BAD);
        }
        CHECK.due("next(1, 5, 99), another's key", x.next(1, 5, 99), NO);
        CHECK.due("next(1, 3, 10)", x.next(1, 3, 10), NO);
        cursorAt(x, "after BAD and NO", 5, 11);
        CHECK.due("next(1, 5, 11)", x.next(1, 5, 11), 0);
        cursorAt(x, "at the end", 0, 0);
        x.undefine(1, 4, 10);
        CHECK.due("next(1, 5, 10) over a gone one", x.next(1, 5, 10), 1);
        cursorAt(x, "behind the gone one", 5, 11);
        CHECK.due("next(1, 4, 10) from a gone one", x.next(1, 4, 10), 1);
        cursorAt(x, "behind the gone one too", 5, 11);
        x.undefine(1, 5, 10);
        x.define(1, 5, 10, 2, 2);
        CHECK.due("next(1, 0, 0): it kept its turn", x.next(1, 0, 0), 1);
        cursorAt(x, "at the one with the first turn", 5, 10);
        x.undefine(1, 5, 10);
        x.undefine(1, 5, 11);
        CHECK.due("next(1, 0, 0) when all are gone", x.next(1, 0, 0), 0);
        cursorAt(x, "when all are gone", 0, 0);
    }

    private static void cursor() {
        PageStore x = withTwo();
        cursorAt(x, "at first", 0, 0);
        x.define(1, 15, LEAST, 1, 1);
        cursorAt(x, "before next()", 0, 0);
        x.save();
        x.define(1, 1, -1, 1, 1);
        x.next(1, 15, LEAST);
        cursorAt(x, "at a key that came since", 1, -1);
        x.undefine(1, 1, -1);
        cursorAt(x, "when its key is gone", 1, -1);
        x.restore(1);
        cursorAt(x, "when its key never came", 1, -1);
        x.next(1, 0, 0);
        cursorAt(x, "at the first key", 15, LEAST);
        x.find(1, 1, 1);
        x.count(2);
        cursorAt(x, "after other calls", 15, LEAST);
    }
}
