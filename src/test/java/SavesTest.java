/** Promises 20 to 22: saves, what is remembered behind them, restores, and what is noted. */
public final class SavesTest {
    private static final int BAD = PageStore.BAD;
    private static final int NO = PageStore.NO;
    private static final int FULL = PageStore.FULL;
    private static final int LEAST = Integer.MIN_VALUE;
    private static final int MOST = Integer.MAX_VALUE;
    private static final Check CHECK = new Check("SavesTest");

    public static void main(String[] args) {
        save();
        restoreCounts();
        restorePlaces();
        restoreLeavesTheRest();
        restoreKeys();
        restoreBytes();
        rememberedOnce();
        rememberedAgainBehindRestore();
        rememberedNot();
        noted();
        CHECK.end();
    }

    private static void save() {
        PageStore x = new PageStore();
        for (int k = 1; k <= 15; k++) {
            CHECK.due("save()", x.save(), k);
        }
        CHECK.due("save() over 15", x.save(), FULL);
        CHECK.due("noted(15, 0)", x.noted(15, 0), 0);
        CHECK.due("noted(16, 0)", x.noted(16, 0), BAD);
        CHECK.due("restore(15)", x.restore(15), 14);
        CHECK.due("save() again", x.save(), 15);
        CHECK.due("restore(1)", x.restore(1), 0);
        CHECK.due("save() from none", x.save(), 1);
    }

    private static void restoreCounts() {
        PageStore x = new PageStore();
        x.values(2);
        x.save();
        x.values(3);
        x.bytes(4);
        x.part(1, 0, 1);
        x.dictionary();
        x.define(1, 1, 1, 1, 1);
        x.save();
        x.values(32763);
        x.bytes(65532);
        x.dictionary();
        x.define(2, 1, 1, 1, 1);
        CHECK.counts("before", x, 6, 32768, 65536, 2, 2, 0);
        for (int k : new int[] {0, -1, 3, MOST, LEAST}) {
            CHECK.due("restore(" + k + ")", x.restore(k), BAD);
        }
        CHECK.counts("after BAD", x, 6, 32768, 65536, 2, 2, 0);
        CHECK.due("restore(2)", x.restore(2), 1);
        CHECK.counts("at the second", x, 4, 5, 4, 1, 1, 0);
        CHECK.due("sort(5)", x.sort(5), BAD);
        CHECK.due("count(2)", x.count(2), BAD);
        CHECK.due("values(32763) again", x.values(32763), 5);
        CHECK.due("bytes(65532) again", x.bytes(65532), 6);
        CHECK.due("dictionary() again", x.dictionary(), 2);
        CHECK.due("find(2, 1, 1): it never came", x.find(2, 1, 1), NO);
        CHECK.due("restore(2), which is gone", x.restore(2), BAD);
        CHECK.due("restore(1)", x.restore(1), 0);
        CHECK.counts("at the first", x, 1, 2, 0, 0, 0, 0);
    }

    private static void restorePlaces() {
        PageStore x = new PageStore();
        x.values(3);
        x.part(1, 1, 2);
        x.set(1, 0, 1, 10);
        x.set(1, 1, 2, 11);
        x.save();
        x.set(1, 0, 3, 20);
        x.set(1, 0, 4, 21);
        x.save();
        x.set(2, 0, 5, 30);
        x.set(1, 0, 6, 31);
        x.set(1, 2, 7, 32);
        x.save();
        x.set(1, 0, 8, 40);
        CHECK.due("restore(3)", x.restore(3), 2);
        row(x, "at the third", 6, 31, 5, 30, 7, 32);
        x.save();
        x.set(1, 0, 9, 50);
        CHECK.due("restore(2) over two", x.restore(2), 1);
        row(x, "at the second", 4, 21, 2, 11, 0, 0);
        CHECK.due("restore(1)", x.restore(1), 0);
        row(x, "at the first", 1, 10, 2, 11, 0, 0);
    }

    private static void restoreLeavesTheRest() {
        PageStore x = new PageStore();
        x.values(3);
        x.set(1, 0, 1, 10);
        x.set(1, 1, 1, 11);
        x.save();
        x.set(1, 2, 1, 12);
        x.restore(1);
        row(x, "with one changed since", 1, 10, 1, 11, 0, 0);
        x.save();
        x.restore(1);
        row(x, "with none changed since", 1, 10, 1, 11, 0, 0);
        x.set(1, 2, 2, 22);
        x.save();
        x.save();
        x.set(1, 1, 2, 21);
        x.restore(2);
        x.restore(1);
        row(x, "with what was remembered before forgotten", 1, 10, 1, 11, 2, 22);
    }

    private static void row(PageStore x, String when, int... kindsAndNumbers) {
        for (int i = 0; i < kindsAndNumbers.length / 2; i++) {
            CHECK.due("get(1, " + i + ") " + when, x.get(1, i), kindsAndNumbers[2 * i]);
            CHECK.due("number(1, " + i + ") " + when, x.number(1, i), kindsAndNumbers[2 * i + 1]);
        }
    }

    private static void restoreKeys() {
        PageStore x = new PageStore();
        x.dictionary();
        x.define(1, 5, 1, 1, 10);
        x.define(1, 5, 2, 1, 20);
        x.undefine(1, 5, 2);
        x.save();
        x.define(1, 5, 2, 2, 21);
        x.define(1, 5, 3, 3, 30);
        x.undefine(1, 5, 1);
        x.save();
        x.define(1, 5, 1, 4, 11);
        x.undefine(1, 5, 2);
        x.undefine(1, 5, 3);
        CHECK.due("restore(2)", x.restore(2), 1);
        CHECK.due("find(1, 5, 1), gone", x.find(1, 5, 1), NO);
        CHECK.due("find(1, 5, 2)", x.find(1, 5, 2), 2);
        CHECK.due("found(1, 5, 2)", x.found(1, 5, 2), 21);
        CHECK.due("found(1, 5, 3)", x.found(1, 5, 3), 30);
        CHECK.due("count(1)", x.count(1), 2);
        CHECK.due("restore(1)", x.restore(1), 0);
        CHECK.due("found(1, 5, 1)", x.found(1, 5, 1), 10);
        CHECK.due("find(1, 5, 2), gone", x.find(1, 5, 2), NO);
        CHECK.due("next(1, 5, 2): it came, and is gone", x.next(1, 5, 2), 0);
        CHECK.due("next(1, 5, 3): it did not come", x.next(1, 5, 3), NO);
        CHECK.due("count(1)", x.count(1), 1);
        CHECK.due("define(1, 5, 3, ..) comes anew", x.define(1, 5, 3, 1, 1), 1);
    }

    private static void restoreBytes() {
        PageStore x = new PageStore();
        x.bytes(2);
        x.save();
        x.setByte(1, 0, 5);
        CHECK.due("noted(0, 5): bytes are not remembered", x.noted(0, 5), 0);
        x.restore(1);
        CHECK.due("get(1, 0): bytes stay", x.get(1, 0), 5);
    }

    private static void rememberedOnce() {
        PageStore x = new PageStore();
        x.values(2);
        x.part(1, 0, 2);
        x.dictionary();
        x.define(1, 5, 1, 1, 1);
        x.save();
        remembered(x, "at first", 0);
        x.set(1, 0, 0, 0);
        remembered(x, "the same value counts", 1);
        x.set(2, 0, 1, 1);
        remembered(x, "the same place through a part", 1);
        x.define(1, 5, 1, 1, 1);
        remembered(x, "a key, though place 0 is remembered", 2);
        x.undefine(1, 5, 1);
        x.define(1, 5, 1, 1, 1);
        remembered(x, "the same key", 2);
        x.save();
        x.set(1, 0, 0, 0);
        x.undefine(1, 5, 1);
        remembered(x, "once more for the second save", 4);
        x.restore(2);
        remembered(x, "the first's are left", 2);
        x.set(1, 0, 0, 0);
        x.undefine(1, 5, 1);
        remembered(x, "the first has these", 2);
        x.restore(1);
        remembered(x, "none is left", 0);
        x.set(1, 0, 0, 0);
        remembered(x, "no save, no memory", 0);
    }

    private static void rememberedAgainBehindRestore() {
        PageStore x = new PageStore();
        x.values(1);
        x.dictionary();
        x.define(1, 5, 1, 1, 1);
        x.set(1, 0, 1, 1);
        x.save();
        x.save();
        x.set(1, 0, 2, 2);
        x.undefine(1, 5, 1);
        x.restore(2);
        remembered(x, "the second's memories went with it", 0);
        x.set(1, 0, 3, 3);
        x.define(1, 5, 1, 3, 3);
        remembered(x, "now for the first", 2);
        x.restore(1);
        CHECK.due("number(1, 0)", x.number(1, 0), 1);
        CHECK.due("found(1, 5, 1)", x.found(1, 5, 1), 1);
    }

    private static void rememberedNot() {
        PageStore x = new PageStore();
        x.dictionary();
        x.define(1, 5, 1, 1, 1);
        x.undefine(1, 5, 1);
        x.save();
        x.values(1);
        x.set(1, 0, 1, 1);
        x.define(1, 5, 2, 1, 1);
        x.define(1, 5, 2, 1, 2);
        x.undefine(1, 5, 2);
        remembered(x, "what came since", 0);
        x.undefine(1, 5, 1);
        x.set(1, 0, 16, 1);
        x.set(1, 1, 1, 1);
        x.define(1, 5, 1, 16, 1);
        remembered(x, "what changed nothing", 0);
        x.define(1, 5, 1, 1, 1);
        remembered(x, "a key that had come and is gone", 1);
    }

    private static void remembered(PageStore x, String when, int want) {
        CHECK.due("noted(0, 5): " + when, x.noted(0, 5), want);
    }

    private static void noted() {
        PageStore x = new PageStore();
        x.save();
        x.values(3);
        x.bytes(4);
        x.bytes(5);
        x.part(1, 0, 2);
        x.dictionary();
        x.dictionary();
        x.define(1, 1, 1, 1, 1);
        x.undefine(1, 1, 1);
        x.save();
        x.values(6);
        x.set(1, 0, 1, 1);
        int[][] want = {{5, 9, 9, 2, 1}, {0, 0, 0, 0, 0}, {4, 3, 9, 2, 1}};
        for (int k = 0; k <= 2; k++) {
            for (int what = 0; what <= 4; what++) {
                CHECK.due("noted(" + k + ", " + what + ")", x.noted(k, what), want[k][what]);
            }
        }
        CHECK.due("noted(0, 5)", x.noted(0, 5), 1);
        int[][] wrong = {
            {1, 5}, {2, 5}, {0, 6}, {0, -1}, {0, MOST}, {0, LEAST}, {1, 6}, {1, -1}, {2, MOST}, {2, LEAST},
            {3, 0}, {-1, 0}, {-1, 5}, {3, 5}, {MOST, 0}, {LEAST, 0}, {MOST, MOST}, {LEAST, LEAST}
        };
        for (int[] w : wrong) {
            CHECK.due("noted(" + w[0] + ", " + w[1] + ")", x.noted(w[0], w[1]), BAD);
        }
    }
}
