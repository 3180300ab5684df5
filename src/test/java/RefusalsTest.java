import java.util.function.Supplier;
import java.util.function.ToIntFunction;

/**
 * "Of several codes the one named first is answered; a call that answers one of these changes
 * nothing": each refused call is made on one of two stores of the same making, and afterwards
 * their readings are the same, now and at every save.
 */
public final class RefusalsTest {
    private static final int BAD = PageStore.BAD;
    private static final int NO = PageStore.NO;
    private static final int FULL = PageStore.FULL;
    private static final int LEAST = Integer.MIN_VALUE;
    private static final int MOST = Integer.MAX_VALUE;
    private static final int[] FAR = {LEAST, -1, 16385, 65537, MOST};
    private static final Check CHECK = new Check("RefusalsTest");

    public static void main(String[] args) {
        rowsBad();
        placesBad();
        dictionariesBad();
        savesBad();
        keysNo();
        placesFull();
        rowsFull();
        dictionariesFull();
        keysFull();
        savesFull();
        memoriesFull();
        theFirstNamed();
        CHECK.end();
    }

    private static void refused(Supplier<PageStore> made, String call, int code, ToIntFunction<PageStore> ask) {
        CHECK.says("Terms", "a call that answers one of these changes nothing");
        PageStore without = made.get();
        PageStore with = made.get();
        CHECK.due(call, ask.applyAsInt(with), code);
        CHECK.holds("nothing changed by " + call, Readings.of(with).equals(Readings.of(without)));
    }

    private static void first(Supplier<PageStore> made, String call, int code, ToIntFunction<PageStore> ask) {
        CHECK.says("Terms", "Of several codes the one named first is answered");
        CHECK.due(call, ask.applyAsInt(made.get()), code);
    }

    /** Two saves, and things from before, between and behind them; the cursor is at a key. */
    private static PageStore rich() {
        PageStore x = new PageStore();
        x.values(3);
        x.bytes(3);
        x.part(1, 1, 2);
        x.set(1, 0, 1, 10);
        x.set(1, 1, 2, 11);
        x.setByte(2, 1, 200);
        x.dictionary();
        x.define(1, 1, 1, 3, 30);
        x.define(1, 1, 2, 3, 31);
        x.define(1, 2, 1, 0, 0);
        x.undefine(1, 1, 2);
        x.save();
        x.set(1, 0, 4, 12);
        x.values(2);
        x.set(4, 1, 5, 13);
        x.dictionary();
        x.define(2, 1, 1, 6, 32);
        x.define(1, 1, 2, 7, 33);
        x.save();
        x.set(4, 0, 8, 14);
        x.undefine(1, 2, 1);
        x.define(1, 3, 4, 9, 34);
        x.next(1, 1, 1);
        return x;
    }

    private static void rowsBad() {
        for (int n : new int[] {LEAST, -1, 32769, MOST}) {
            refused(RefusalsTest::rich, "values(" + n + ")", BAD, x -> x.values(n));
        }
        for (int n : new int[] {LEAST, -1, 65537, MOST}) {
            refused(RefusalsTest::rich, "bytes(" + n + ")", BAD, x -> x.bytes(n));
        }
        for (int n : FAR) {
            refused(RefusalsTest::rich, "part(1, 0, " + n + ")", BAD, x -> x.part(1, 0, n));
            refused(RefusalsTest::rich, "part(1, 1, " + n + ")", BAD, x -> x.part(1, 1, n));
            refused(RefusalsTest::rich, "part(1, " + n + ", 0)", BAD, x -> x.part(1, n, 0));
            refused(RefusalsTest::rich, "part(1, " + n + ", 2)", BAD, x -> x.part(1, n, 2));
            refused(RefusalsTest::rich, "part(1, " + n + ", -n)", BAD, x -> x.part(1, n, -n));
            refused(RefusalsTest::rich, "part(" + n + ", 0, 0)", BAD, x -> x.part(n, 0, 0));
            refused(RefusalsTest::rich, "sort(" + n + ")", BAD, x -> x.sort(n));
            refused(RefusalsTest::rich, "length(" + n + ")", BAD, x -> x.length(n));
        }
        refused(RefusalsTest::rich, "part(3, 1, 2)", BAD, x -> x.part(3, 1, 2));
        refused(RefusalsTest::rich, "part(0, 0, 0)", BAD, x -> x.part(0, 0, 0));
        refused(RefusalsTest::rich, "part(5, 0, 0)", BAD, x -> x.part(5, 0, 0));
    }

    private static void placesBad() {
        for (int n : FAR) {
            refused(RefusalsTest::rich, "set(" + n + ", 0, 1, 99)", BAD, x -> x.set(n, 0, 1, 99));
            refused(RefusalsTest::rich, "set(1, " + n + ", 1, 99)", BAD, x -> x.set(1, n, 1, 99));
            refused(RefusalsTest::rich, "set(1, 1, " + n + ", 99)", BAD, x -> x.set(1, 1, n, 99));
            refused(RefusalsTest::rich, "get(" + n + ", 0)", BAD, x -> x.get(n, 0));
            refused(RefusalsTest::rich, "get(2, " + n + ")", BAD, x -> x.get(2, n));
            refused(RefusalsTest::rich, "setByte(" + n + ", 0, 99)", BAD, x -> x.setByte(n, 0, 99));
            refused(RefusalsTest::rich, "setByte(2, " + n + ", 99)", BAD, x -> x.setByte(2, n, 99));
        }
        refused(RefusalsTest::rich, "set(2, 0, 1, 99) of bytes", BAD, x -> x.set(2, 0, 1, 99));
        refused(RefusalsTest::rich, "set(3, 2, 1, 99) behind a part", BAD, x -> x.set(3, 2, 1, 99));
        refused(RefusalsTest::rich, "set(1, 3, 1, 99) into the next row", BAD, x -> x.set(1, 3, 1, 99));
        refused(RefusalsTest::rich, "set(4, -1, 1, 99) into the row before", BAD, x -> x.set(4, -1, 1, 99));
        refused(RefusalsTest::rich, "set(1, 1, 16, 99)", BAD, x -> x.set(1, 1, 16, 99));
        refused(RefusalsTest::rich, "setByte(1, 0, 99) of values", BAD, x -> x.setByte(1, 0, 99));
        refused(RefusalsTest::rich, "setByte(2, 3, 99)", BAD, x -> x.setByte(2, 3, 99));
    }

    private static void dictionariesBad() {
        for (int n : FAR) {
            refused(RefusalsTest::rich, "define(" + n + ", 1, 1, 1, 9)", BAD, x -> x.define(n, 1, 1, 1, 9));
            refused(RefusalsTest::rich, "define(1, " + n + ", 1, 1, 9)", BAD, x -> x.define(1, n, 1, 1, 9));
            refused(RefusalsTest::rich, "define(1, 1, 1, " + n + ", 9)", BAD, x -> x.define(1, 1, 1, n, 9));
            refused(RefusalsTest::rich, "define(1, 1, 4, " + n + ", 9)", BAD, x -> x.define(1, 1, 4, n, 9));
            refused(RefusalsTest::rich, "find(" + n + ", 1, 1)", BAD, x -> x.find(n, 1, 1));
            refused(RefusalsTest::rich, "find(1, " + n + ", 1)", BAD, x -> x.find(1, n, 1));
            refused(RefusalsTest::rich, "undefine(" + n + ", 1, 1)", BAD, x -> x.undefine(n, 1, 1));
            refused(RefusalsTest::rich, "undefine(1, " + n + ", 1)", BAD, x -> x.undefine(1, n, 1));
            refused(RefusalsTest::rich, "count(" + n + ")", BAD, x -> x.count(n));
            refused(RefusalsTest::rich, "next(" + n + ", 0, 0)", BAD, x -> x.next(n, 0, 0));
            refused(RefusalsTest::rich, "next(" + n + ", 1, 1)", BAD, x -> x.next(n, 1, 1));
            refused(RefusalsTest::rich, "next(1, " + n + ", 1)", BAD, x -> x.next(1, n, 1));
        }
        refused(RefusalsTest::rich, "define(3, 1, 1, 1, 9)", BAD, x -> x.define(3, 1, 1, 1, 9));
        refused(RefusalsTest::rich, "define(1, 0, 1, 1, 9)", BAD, x -> x.define(1, 0, 1, 1, 9));
        refused(RefusalsTest::rich, "define(1, 16, 1, 1, 9)", BAD, x -> x.define(1, 16, 1, 1, 9));
        refused(RefusalsTest::rich, "define(1, 1, 1, 16, 9)", BAD, x -> x.define(1, 1, 1, 16, 9));
        refused(RefusalsTest::rich, "undefine(1, 0, 1)", BAD, x -> x.undefine(1, 0, 1));
        refused(RefusalsTest::rich, "next(1, 16, 1)", BAD, x -> x.next(1, 16, 1));
    }

    private static void savesBad() {
        for (int n : FAR) {
            refused(RefusalsTest::rich, "restore(" + n + ")", BAD, x -> x.restore(n));
            refused(RefusalsTest::rich, "noted(" + n + ", 0)", BAD, x -> x.noted(n, 0));
            refused(RefusalsTest::rich, "noted(0, " + n + ")", BAD, x -> x.noted(0, n));
        }
        refused(RefusalsTest::rich, "restore(0)", BAD, x -> x.restore(0));
        refused(RefusalsTest::rich, "restore(3)", BAD, x -> x.restore(3));
        refused(RefusalsTest::rich, "noted(2, 5)", BAD, x -> x.noted(2, 5));
    }

    private static void keysNo() {
        refused(RefusalsTest::rich, "find(1, 1, 4)", NO, x -> x.find(1, 1, 4));
        refused(RefusalsTest::rich, "find(1, 2, 1), gone", NO, x -> x.find(1, 2, 1));
        refused(RefusalsTest::rich, "undefine(1, 1, 4)", NO, x -> x.undefine(1, 1, 4));
        refused(RefusalsTest::rich, "undefine(1, 2, 1), gone", NO, x -> x.undefine(1, 2, 1));
        refused(RefusalsTest::rich, "undefine(2, 1, 2), another's", NO, x -> x.undefine(2, 1, 2));
        refused(RefusalsTest::rich, "next(1, 1, 4)", NO, x -> x.next(1, 1, 4));
    }

    private static PageStore fullPlaces() {
        PageStore x = rich();
        x.values(32763);
        x.bytes(65533);
        return x;
    }

    private static void placesFull() {
        for (int n : new int[] {1, 2, 32768}) {
            refused(RefusalsTest::fullPlaces, "values(" + n + ")", FULL, x -> x.values(n));
        }
        for (int n : new int[] {1, 2, 65536}) {
            refused(RefusalsTest::fullPlaces, "bytes(" + n + ")", FULL, x -> x.bytes(n));
        }
    }

    private static PageStore fullRows() {
        PageStore x = rich();
        for (int row = 5; row <= 16384; row++) {
            x.part(1, 0, 2);
        }
        return x;
    }

    private static void rowsFull() {
        refused(RefusalsTest::fullRows, "values(0)", FULL, x -> x.values(0));
        refused(RefusalsTest::fullRows, "values(3)", FULL, x -> x.values(3));
        refused(RefusalsTest::fullRows, "bytes(0)", FULL, x -> x.bytes(0));
        refused(RefusalsTest::fullRows, "bytes(3)", FULL, x -> x.bytes(3));
        refused(RefusalsTest::fullRows, "part(1, 0, 0)", FULL, x -> x.part(1, 0, 0));
        refused(RefusalsTest::fullRows, "part(1, 0, 3)", FULL, x -> x.part(1, 0, 3));
    }

    private static PageStore fullDictionaries() {
        PageStore x = rich();
        for (int d = 3; d <= 1024; d++) {
            x.dictionary();
        }
        return x;
    }

    private static void dictionariesFull() {
        refused(RefusalsTest::fullDictionaries, "dictionary()", FULL, x -> x.dictionary());
    }

    private static PageStore fullKeys() {
        PageStore x = rich();
        for (int key = x.noted(0, 4); key < 16384; key++) {
            x.define(1 + key % 2, 15, key, 1, key);
        }
        return x;
    }

    private static void keysFull() {
        refused(RefusalsTest::fullKeys, "define(1, 1, 4, 1, 9)", FULL, x -> x.define(1, 1, 4, 1, 9));
        refused(RefusalsTest::fullKeys, "define(2, 3, 4, 0, 0)", FULL, x -> x.define(2, 3, 4, 0, 0));
    }

    private static PageStore fullSaves() {
        PageStore x = rich();
        for (int k = 3; k <= 15; k++) {
            x.save();
            x.set(1, 2, 1, k);
        }
        return x;
    }

    private static void savesFull() {
        refused(RefusalsTest::fullSaves, "save()", FULL, x -> x.save());
    }

    /** All 15 saves together have 40000; the places 2662 to 2666 and the keys are not remembered for the last. */
    private static PageStore fullMemories() {
        PageStore x = new PageStore();
        x.values(2667);
        x.dictionary();
        x.define(1, 1, 1, 1, 100);
        x.define(1, 1, 2, 1, 200);
        x.undefine(1, 1, 2);
        for (int k = 1; k <= 15; k++) {
            x.save();
            for (int i = 0; i < 2667 && x.noted(0, 5) < 40000; i++) {
                x.set(1, i, 1, k * 10000 + i);
            }
        }
        return x;
    }

    private static void memoriesFull() {
        CHECK.due("noted(0, 5)", fullMemories().noted(0, 5), 40000);
        refused(RefusalsTest::fullMemories, "set(1, 2665, 2, 9)", FULL, x -> x.set(1, 2665, 2, 9));
        refused(RefusalsTest::fullMemories, "set(1, 2666, 0, 0)", FULL, x -> x.set(1, 2666, 0, 0));
        refused(RefusalsTest::fullMemories, "define(1, 1, 1, 1, 9)", FULL, x -> x.define(1, 1, 1, 1, 9));
        refused(RefusalsTest::fullMemories, "define(1, 1, 2, 1, 9), gone", FULL, x -> x.define(1, 1, 2, 1, 9));
        refused(RefusalsTest::fullMemories, "undefine(1, 1, 1)", FULL, x -> x.undefine(1, 1, 1));
        refused(RefusalsTest::fullMemories, "undefine(1, 1, 2), gone", NO, x -> x.undefine(1, 1, 2));
    }

    private static void theFirstNamed() {
        first(RefusalsTest::fullPlaces, "values(32769) when full", BAD, x -> x.values(32769));
        first(RefusalsTest::fullPlaces, "values(-1) when full", BAD, x -> x.values(-1));
        first(RefusalsTest::fullPlaces, "bytes(65537) when full", BAD, x -> x.bytes(65537));
        first(RefusalsTest::fullPlaces, "bytes(-1) when full", BAD, x -> x.bytes(-1));
        first(RefusalsTest::fullRows, "values(32769) without a row left", BAD, x -> x.values(32769));
        first(RefusalsTest::fullRows, "bytes(-1) without a row left", BAD, x -> x.bytes(-1));
        first(RefusalsTest::fullRows, "part(0, 0, 0) without a row left", BAD, x -> x.part(0, 0, 0));
        first(RefusalsTest::fullRows, "part(1, 0, 4) without a row left", BAD, x -> x.part(1, 0, 4));
        first(RefusalsTest::fullKeys, "define(1, 1, 4, 16, 9) when full", BAD, x -> x.define(1, 1, 4, 16, 9));
        first(RefusalsTest::fullKeys, "define(3, 1, 4, 1, 9) when full", BAD, x -> x.define(3, 1, 4, 1, 9));
        first(RefusalsTest::fullKeys, "define(1, 0, 4, 1, 9) when full", BAD, x -> x.define(1, 0, 4, 1, 9));
        first(RefusalsTest::fullMemories, "set(1, 2665, 16, 9)", BAD, x -> x.set(1, 2665, 16, 9));
        first(RefusalsTest::fullMemories, "set(1, 2667, 1, 9)", BAD, x -> x.set(1, 2667, 1, 9));
        first(RefusalsTest::fullMemories, "set(2, 0, 1, 9)", BAD, x -> x.set(2, 0, 1, 9));
        first(RefusalsTest::fullMemories, "define(1, 1, 1, -1, 9)", BAD, x -> x.define(1, 1, 1, -1, 9));
        first(RefusalsTest::fullMemories, "undefine(2, 1, 1)", BAD, x -> x.undefine(2, 1, 1));
        first(RefusalsTest::fullMemories, "undefine(1, 0, 1)", BAD, x -> x.undefine(1, 0, 1));
        first(RefusalsTest::fullMemories, "undefine(1, 1, 3)", NO, x -> x.undefine(1, 1, 3));
        first(RefusalsTest::rich, "find(3, 16, 4)", BAD, x -> x.find(3, 16, 4));
        first(RefusalsTest::rich, "next(3, 1, 4)", BAD, x -> x.next(3, 1, 4));
        first(RefusalsTest::rich, "next(1, 16, 4)", BAD, x -> x.next(1, 16, 4));
    }
}
