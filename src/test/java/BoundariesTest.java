/** The promises 1 to 22: each sentence that names a boundary case has its own test here. */
public final class BoundariesTest {
    private static final int BAD = PageStore.BAD;
    private static final int NO = PageStore.NO;
    private static final int FULL = PageStore.FULL;
    private static final int LEAST = Integer.MIN_VALUE;
    private static final int MOST = Integer.MAX_VALUE;
    private static final int[] NO_KINDS = {LEAST, -256, -1, 16, 17, 256, MOST};
    private static final Check CHECK = new Check("BoundariesTest");

    public static void main(String[] args) {
        nothingIsThere();
        valuesAllNull();
        valuesBad();
        valuesFull();
        bytesAllZero();
        bytesBad();
        bytesFull();
        partEmpty();
        partWhole();
        partBadRow();
        partBadPlaces();
        partFull();
        sortBad();
        lengthEdges();
        setBad();
        setFull();
        getByte();
        getBad();
        numberNone();
        setByteModulo();
        setByteBad();
        dictionaryFull();
        defineComes();
        defineBad();
        defineFull();
        findBad();
        findNo();
        foundNone();
        undefineNo();
        undefineBad();
        undefineFull();
        countNone();
        countBad();
        nextFirst();
        nextBehind();
        nextNone();
        nextBad();
        nextNo();
        cursorAtFirst();
        cursorAsItWas();
        saveFull();
        restoreBad();
        restoreAnswers();
        notedNow();
        notedAtSaves();
        notedRemembered();
        notedBad();
        CHECK.end();
    }

    private static void says(int promise, String words) {
        CHECK.says("Promise " + promise, words);
    }

    private static PageStore withDictionary() {
        PageStore x = new PageStore();
        x.dictionary();
        return x;
    }

    private static void cursorAt(String when, PageStore x, int kind, int number) {
        CHECK.due("cursorKind() " + when, x.cursorKind(), kind);
        CHECK.due("cursorNumber() " + when, x.cursorNumber(), number);
    }

    private static void nothingIsThere() {
        says(1, "Nothing is there.");
        PageStore x = new PageStore();
        for (int n : new int[] {LEAST, -1, 0, 1, 2, 16384, MOST}) {
            CHECK.due("sort(" + n + ")", x.sort(n), BAD);
            CHECK.due("length(" + n + ")", x.length(n), BAD);
            CHECK.due("get(" + n + ", 0)", x.get(n, 0), BAD);
            CHECK.due("number(" + n + ", 0)", x.number(n, 0), 0);
            CHECK.due("part(" + n + ", 0, 0)", x.part(n, 0, 0), BAD);
            CHECK.due("count(" + n + ")", x.count(n), BAD);
            CHECK.due("find(" + n + ", 1, 0)", x.find(n, 1, 0), BAD);
            CHECK.due("found(" + n + ", 1, 0)", x.found(n, 1, 0), 0);
            CHECK.due("next(" + n + ", 0, 0)", x.next(n, 0, 0), BAD);
            CHECK.due("restore(" + n + ")", x.restore(n), BAD);
            if (n != 0) {
                CHECK.due("noted(" + n + ", 0)", x.noted(n, 0), BAD);
            }
        }
        CHECK.counts("new", x, 0, 0, 0, 0, 0, 0);
        cursorAt("of a new object", x, 0, 0);
    }

    private static void valuesAllNull() {
        says(2, "A new row of n values, all NULL: its number.");
        PageStore x = new PageStore();
        CHECK.due("values(0)", x.values(0), 1);
        CHECK.due("get(1, 0), of none", x.get(1, 0), BAD);
        CHECK.due("values(1)", x.values(1), 2);
        CHECK.due("get(2, 0)", x.get(2, 0), 0);
        x.save();
        x.values(100);
        for (int i = 0; i < 100; i++) {
            x.set(3, i, 15, -1);
        }
        x.restore(1);
        CHECK.due("values(99), of taken places", x.values(99), 3);
        CHECK.due("values(3), the last of them", x.values(3), 4);
        for (int i = 0; i < 99; i++) {
            CHECK.due("get(3, " + i + ")", x.get(3, i), 0);
            CHECK.due("number(3, " + i + ")", x.number(3, i), 0);
        }
        CHECK.due("get(4, 0)", x.get(4, 0), 0);
        CHECK.due("number(4, 0)", x.number(4, 0), 0);
        PageStore y = new PageStore();
        y.save();
        y.values(2);
        y.set(1, 0, 15, -1);
        y.restore(1);
        y.values(1);
        CHECK.due("get(1, 0), the first place anew", y.get(1, 0), 0);
        CHECK.due("number(1, 0), the first place anew", y.number(1, 0), 0);
    }

    private static void valuesBad() {
        says(2, "BAD when n is not 0 .. 32768");
        for (int n : new int[] {LEAST, LEAST + 1, -32768, -1, 32769, 65536, MOST}) {
            PageStore x = new PageStore();
            CHECK.due("values(" + n + ")", x.values(n), BAD);
            x.values(1);
            CHECK.due("values(" + n + ") behind a row", x.values(n), BAD);
            CHECK.counts("after BAD", x, 1, 1, 0, 0, 0, 0);
        }
        CHECK.due("values(0)", new PageStore().values(0), 1);
        CHECK.due("values(32768)", new PageStore().values(32768), 1);
    }

    private static void valuesFull() {
        says(2, "FULL.");
        PageStore x = new PageStore();
        x.values(1);
        CHECK.due("values(32768)", x.values(32768), FULL);
        CHECK.due("values(32767)", x.values(32767), 2);
        CHECK.due("values(1)", x.values(1), FULL);
        CHECK.due("values(0)", x.values(0), 3);
        CHECK.due("bytes(65536), which are others", x.bytes(65536), 4);
    }

    private static void bytesAllZero() {
        says(3, "A new row of n bytes, all 0: its number.");
        PageStore x = new PageStore();
        CHECK.due("bytes(0)", x.bytes(0), 1);
        CHECK.due("get(1, 0), of none", x.get(1, 0), BAD);
        CHECK.due("bytes(1)", x.bytes(1), 2);
        CHECK.due("get(2, 0)", x.get(2, 0), 0);
        x.setByte(2, 0, 77);
        x.save();
        x.bytes(100);
        for (int i = 0; i < 100; i++) {
            x.setByte(3, i, 255);
        }
        x.restore(1);
        CHECK.due("bytes(99), of taken ones", x.bytes(99), 3);
        CHECK.due("bytes(3), the last of them", x.bytes(3), 4);
        for (int i = 0; i < 99; i++) {
            CHECK.due("get(3, " + i + ")", x.get(3, i), 0);
        }
        CHECK.due("get(4, 0)", x.get(4, 0), 0);
        CHECK.due("get(2, 0), not of the new ones", x.get(2, 0), 77);
        PageStore y = new PageStore();
        y.save();
        y.bytes(2);
        y.setByte(1, 0, 255);
        y.restore(1);
        y.bytes(1);
        CHECK.due("get(1, 0), the first byte anew", y.get(1, 0), 0);
    }

    private static void bytesBad() {
        says(3, "BAD when n is not 0 .. 65536");
        for (int n : new int[] {LEAST, LEAST + 1, -65536, -1, 65537, 131072, MOST}) {
            PageStore x = new PageStore();
            CHECK.due("bytes(" + n + ")", x.bytes(n), BAD);
            x.bytes(1);
            CHECK.due("bytes(" + n + ") behind a row", x.bytes(n), BAD);
            CHECK.counts("after BAD", x, 1, 0, 1, 0, 0, 0);
        }
        CHECK.due("bytes(0)", new PageStore().bytes(0), 1);
        CHECK.due("bytes(65536)", new PageStore().bytes(65536), 1);
    }

    private static void bytesFull() {
        says(3, "FULL.");
        PageStore x = new PageStore();
        x.bytes(1);
        CHECK.due("bytes(65536)", x.bytes(65536), FULL);
        CHECK.due("bytes(65535)", x.bytes(65535), 2);
        CHECK.due("bytes(1)", x.bytes(1), FULL);
        CHECK.due("bytes(0)", x.bytes(0), 3);
        CHECK.due("values(32768), which are others", x.values(32768), 4);
    }

    private static void partEmpty() {
        says(4, "A row that is the n places of another one from place from on (n = 0)");
        PageStore x = new PageStore();
        x.values(2);
        x.bytes(0);
        for (int from = 0; from <= 2; from++) {
            CHECK.due("part(1, " + from + ", 0)", x.part(1, from, 0), 3 + from);
            CHECK.due("length of it", x.length(3 + from), 0);
            CHECK.due("sort of it", x.sort(3 + from), 1);
            CHECK.due("get of it", x.get(3 + from, 0), BAD);
            CHECK.due("set of it", x.set(3 + from, 0, 1, 1), BAD);
        }
        CHECK.due("part(1, 3, 0)", x.part(1, 3, 0), BAD);
        CHECK.due("part(1, -1, 0)", x.part(1, -1, 0), BAD);
        CHECK.due("part(2, 0, 0), of an empty one", x.part(2, 0, 0), 6);
        CHECK.due("sort(6)", x.sort(6), 2);
        CHECK.due("part(2, 0, 1)", x.part(2, 0, 1), BAD);
        CHECK.due("part(2, 1, 0)", x.part(2, 1, 0), BAD);
        CHECK.due("part(6, 0, 0), of an empty part", x.part(6, 0, 0), 7);
    }

    private static void partWhole() {
        says(4, "A row that is the n places of another one from place from on (all of them)");
        PageStore x = new PageStore();
        x.values(32768);
        x.bytes(65536);
        CHECK.due("part(1, 0, 32768)", x.part(1, 0, 32768), 3);
        CHECK.due("part(2, 0, 65536)", x.part(2, 0, 65536), 4);
        CHECK.due("part(1, 32767, 1)", x.part(1, 32767, 1), 5);
        CHECK.due("part(4, 65535, 1)", x.part(4, 65535, 1), 6);
        x.set(5, 0, 6, 60);
        x.setByte(6, 0, 61);
        CHECK.due("number(3, 32767)", x.number(3, 32767), 60);
        CHECK.due("get(4, 65535)", x.get(4, 65535), 61);
        CHECK.due("part(1, 0, 32769)", x.part(1, 0, 32769), BAD);
        CHECK.due("part(2, 1, 65536)", x.part(2, 1, 65536), BAD);
    }

    private static void partBadRow() {
        says(4, "BAD when there is no such row");
        PageStore x = new PageStore();
        x.values(2);
        x.save();
        x.values(2);
        x.restore(1);
        for (int row : new int[] {LEAST, -1, 0, 2, 3, 16384, 16385, MOST}) {
            CHECK.due("part(" + row + ", 0, 0)", x.part(row, 0, 0), BAD);
            CHECK.due("part(" + row + ", 0, 1)", x.part(row, 0, 1), BAD);
        }
        CHECK.due("noted(0, 0)", x.noted(0, 0), 1);
    }

    private static void partBadPlaces() {
        says(4, "BAD when .. it has not these");
        PageStore x = new PageStore();
        x.values(5);
        x.part(1, 1, 3);
        int[][] wrong = {
            {-1, 0}, {-1, 1}, {-1, 2}, {0, -1}, {1, -1}, {4, -1}, {0, 4}, {1, 3}, {2, 2}, {3, 1}, {4, 0}, {5, -1},
            {LEAST, 0}, {LEAST, LEAST}, {LEAST, MOST}, {0, LEAST}, {1, LEAST}, {3, LEAST}, {MOST, 0}, {MOST, 1},
            {MOST, 2}, {MOST, MOST}, {MOST, LEAST}, {0, MOST}, {1, MOST}, {3, MOST}, {-3, MOST}, {MOST, -MOST},
            {MOST - 1, 2}, {1 << 30, 1 << 30}
        };
        for (int[] w : wrong) {
            CHECK.due("part(2, " + w[0] + ", " + w[1] + ")", x.part(2, w[0], w[1]), BAD);
        }
        CHECK.due("part(2, 0, 3)", x.part(2, 0, 3), 3);
        CHECK.due("part(2, 2, 1)", x.part(2, 2, 1), 4);
    }

    private static void partFull() {
        says(4, "FULL.");
        PageStore x = new PageStore();
        x.values(1);
        for (int row = 2; row <= 16384; row++) {
            CHECK.due("part(1, 0, 1)", x.part(1, 0, 1), row);
        }
        CHECK.due("part(1, 0, 1), one too many", x.part(1, 0, 1), FULL);
        CHECK.due("part(16384, 0, 1), one too many", x.part(16384, 0, 1), FULL);
        CHECK.due("part(1, 0, 0), one too many", x.part(1, 0, 0), FULL);
    }

    private static void sortBad() {
        says(5, "1 values, 2 bytes; BAD when there is no such row.");
        PageStore x = new PageStore();
        x.bytes(0);
        x.values(0);
        x.part(1, 0, 0);
        x.part(2, 0, 0);
        int[] sorts = {BAD, 2, 1, 2, 1, BAD};
        for (int row = 0; row <= 5; row++) {
            CHECK.due("sort(" + row + ")", x.sort(row), sorts[row]);
        }
        x.save();
        x.values(1);
        CHECK.due("sort(5), made", x.sort(5), 1);
        x.restore(1);
        CHECK.due("sort(5), gone", x.sort(5), BAD);
        for (int row : new int[] {LEAST, -1, 16384, MOST}) {
            CHECK.due("sort(" + row + ")", x.sort(row), BAD);
        }
    }

    private static void lengthEdges() {
        says(6, "How many places a row has; BAD.");
        PageStore x = new PageStore();
        x.values(32768);
        x.bytes(65536);
        x.values(0);
        x.part(2, 65535, 1);
        int[] lengths = {BAD, 32768, 65536, 0, 1, BAD};
        for (int row = 0; row <= 5; row++) {
            CHECK.due("length(" + row + ")", x.length(row), lengths[row]);
        }
        x.save();
        x.bytes(0);
        CHECK.due("length(5), made", x.length(5), 0);
        x.restore(1);
        CHECK.due("length(5), gone", x.length(5), BAD);
        for (int row : new int[] {LEAST, -1, 16384, MOST}) {
            CHECK.due("length(" + row + ")", x.length(row), BAD);
        }
    }

    private static void setBad() {
        says(7, "BAD when there is no such row, or place, or kind is not 0 .. 15");
        PageStore x = new PageStore();
        x.values(2);
        x.bytes(2);
        x.values(2);
        for (int row : new int[] {LEAST, -1, 0, 2, 4, 16384, MOST}) {
            CHECK.due("set(" + row + ", 0, 1, 1)", x.set(row, 0, 1, 1), BAD);
        }
        for (int place : new int[] {LEAST, -1, 2, 3, 32768, MOST}) {
            CHECK.due("set(1, " + place + ", 1, 1)", x.set(1, place, 1, 1), BAD);
            CHECK.due("set(3, " + place + ", 1, 1)", x.set(3, place, 1, 1), BAD);
        }
        for (int kind : NO_KINDS) {
            CHECK.due("set(1, 0, " + kind + ", 1)", x.set(1, 0, kind, 1), BAD);
        }
        for (int place = 0; place < 2; place++) {
            CHECK.due("get(1, " + place + ")", x.get(1, place), 0);
            CHECK.due("get(3, " + place + ")", x.get(3, place), 0);
            CHECK.due("set(1, " + place + ", 15, 1)", x.set(1, place, 15, 1), 1);
            CHECK.due("set(3, " + place + ", 0, 1)", x.set(3, place, 0, 1), 1);
        }
    }

    /** One save with all places remembered, a second with the rest of the 40000; the keys are left out. */
    private static PageStore fullMemories() {
        PageStore x = withDictionary();
        x.values(20001);
        x.define(1, 1, 1, 1, 100);
        x.define(1, 1, 2, 1, 200);
        x.undefine(1, 1, 2);
        for (int k = 1; k <= 2; k++) {
            x.save();
            for (int i = 0; i < 20000; i++) {
                x.set(1, i, 1, k);
            }
        }
        return x;
    }

    private static void setFull() {
        says(7, "FULL when it would have to be remembered and 40000 are.");
        PageStore x = fullMemories();
        CHECK.due("noted(0, 5)", x.noted(0, 5), 40000);
        CHECK.due("set(1, 20000, 1, 9)", x.set(1, 20000, 1, 9), FULL);
        CHECK.due("set(1, 20000, 0, 0), what it is", x.set(1, 20000, 0, 0), FULL);
        CHECK.due("set(1, 19999, 1, 9), remembered", x.set(1, 19999, 1, 9), 1);
        x.values(1);
        CHECK.due("set(2, 0, 1, 9), made since", x.set(2, 0, 1, 9), 1);
        x.restore(2);
        CHECK.due("set(1, 20000, 1, 9), with room", x.set(1, 20000, 1, 9), 1);
        x.restore(1);
        CHECK.due("get(1, 20000)", x.get(1, 20000), 0);
        CHECK.due("get(1, 19999)", x.get(1, 19999), 0);
        CHECK.due("set(1, 20000, 1, 9), without a save", x.set(1, 20000, 1, 9), 1);
    }

    private static void getByte() {
        says(8, "or its byte, 0 .. 255");
        PageStore x = new PageStore();
        x.bytes(256);
        for (int b = 0; b < 256; b++) {
            x.setByte(1, b, b);
        }
        for (int b = 0; b < 256; b += 5) {
            CHECK.due("get(1, " + b + ")", x.get(1, b), b);
        }
        CHECK.due("get(1, 128)", x.get(1, 128), 128);
        CHECK.due("get(1, 255)", x.get(1, 255), 255);
    }

    private static void getBad() {
        says(8, "BAD.");
        PageStore x = new PageStore();
        x.values(2);
        x.bytes(2);
        x.values(1);
        x.bytes(1);
        x.set(3, 0, 7, 7);
        x.setByte(4, 0, 7);
        for (int row : new int[] {LEAST, -1, 0, 5, 16384, MOST}) {
            CHECK.due("get(" + row + ", 0)", x.get(row, 0), BAD);
        }
        for (int place : new int[] {LEAST, -1, 2, 3, 32768, 65536, MOST}) {
            CHECK.due("get(1, " + place + ")", x.get(1, place), BAD);
            CHECK.due("get(2, " + place + ")", x.get(2, place), BAD);
        }
        CHECK.due("get(3, -1)", x.get(3, -1), BAD);
        CHECK.due("get(3, 0)", x.get(3, 0), 7);
        CHECK.due("get(4, 0)", x.get(4, 0), 7);
    }

    private static void numberNone() {
        says(9, "0 for bytes, and for what is not there.");
        PageStore x = new PageStore();
        x.values(2);
        x.bytes(2);
        x.values(2);
        for (int place = 0; place < 2; place++) {
            x.set(1, place, 1, 5);
            x.setByte(2, place, 6);
            x.set(3, place, 1, 7);
            CHECK.due("number(2, " + place + ")", x.number(2, place), 0);
        }
        for (int n : new int[] {LEAST, -2, -1, 2, 3, 32768, MOST}) {
            CHECK.due("number(1, " + n + ")", x.number(1, n), 0);
            CHECK.due("number(3, " + n + ")", x.number(3, n), 0);
            CHECK.due("number(2, " + n + ")", x.number(2, n), 0);
        }
        for (int row : new int[] {LEAST, -1, 0, 4, 16384, MOST}) {
            CHECK.due("number(" + row + ", 0)", x.number(row, 0), 0);
        }
        CHECK.due("number(1, 1)", x.number(1, 1), 5);
        CHECK.due("number(3, 0)", x.number(3, 0), 7);
    }

    private static void setByteModulo() {
        says(10, "A byte is set to b modulo 256: 1.");
        PageStore x = new PageStore();
        x.bytes(1);
        int[][] turned = {
            {0, 0}, {127, 127}, {128, 128}, {255, 255}, {256, 0}, {257, 1}, {511, 255}, {512, 0}, {65535, 255},
            {65536, 0}, {-1, 255}, {-128, 128}, {-129, 127}, {-255, 1}, {-256, 0}, {-257, 255}, {MOST, 255},
            {MOST - 255, 0}, {LEAST, 0}, {LEAST + 1, 1}
        };
        for (int[] t : turned) {
            CHECK.due("setByte(1, 0, " + t[0] + ")", x.setByte(1, 0, t[0]), 1);
            CHECK.due("get(1, 0) of " + t[0], x.get(1, 0), t[1]);
        }
    }

    private static void setByteBad() {
        says(10, "BAD when there is no such row of bytes, or place.");
        PageStore x = new PageStore();
        x.bytes(2);
        x.values(2);
        x.bytes(2);
        for (int row : new int[] {LEAST, -1, 0, 2, 4, 16384, MOST}) {
            CHECK.due("setByte(" + row + ", 0, 9)", x.setByte(row, 0, 9), BAD);
        }
        for (int place : new int[] {LEAST, -1, 2, 3, 65536, MOST}) {
            CHECK.due("setByte(1, " + place + ", 9)", x.setByte(1, place, 9), BAD);
            CHECK.due("setByte(3, " + place + ", 9)", x.setByte(3, place, 9), BAD);
        }
        for (int row = 1; row <= 3; row++) {
            CHECK.due("get(" + row + ", 0)", x.get(row, 0), 0);
            CHECK.due("get(" + row + ", 1)", x.get(row, 1), 0);
        }
        CHECK.due("setByte(1, 1, 9)", x.setByte(1, 1, 9), 1);
        CHECK.due("setByte(3, 0, 9)", x.setByte(3, 0, 9), 1);
    }

    private static void dictionaryFull() {
        says(11, "A new dictionary: its number. FULL.");
        PageStore x = new PageStore();
        x.save();
        for (int d = 1; d <= 1024; d++) {
            CHECK.due("dictionary()", x.dictionary(), d);
        }
        CHECK.due("dictionary(), one too many", x.dictionary(), FULL);
        CHECK.due("dictionary(), still", x.dictionary(), FULL);
        x.restore(1);
        CHECK.due("dictionary(), from none", x.dictionary(), 1);
    }

    private static void defineComes() {
        says(12, "A key gets a value in a dictionary: 1 when it comes by that, else 0.");
        PageStore x = withDictionary();
        x.dictionary();
        CHECK.due("define(1, 1, 0, 0, 0)", x.define(1, 1, 0, 0, 0), 1);
        CHECK.due("define(1, 1, 0, 0, 0) again", x.define(1, 1, 0, 0, 0), 0);
        CHECK.due("define(2, 1, 0, 0, 0), another's", x.define(2, 1, 0, 0, 0), 1);
        CHECK.due("define(1, 15, 0, 0, 0), another kind", x.define(1, 15, 0, 0, 0), 1);
        CHECK.due("define(1, 1, least, 15, 0)", x.define(1, 1, LEAST, 15, 0), 1);
        x.undefine(1, 1, 0);
        CHECK.due("define(1, 1, 0, 1, 1), gone", x.define(1, 1, 0, 1, 1), 0);
        x.save();
        CHECK.due("define(1, 1, 5, 1, 1)", x.define(1, 1, 5, 1, 1), 1);
        x.restore(1);
        CHECK.due("define(1, 1, 5, 1, 1), never came", x.define(1, 1, 5, 1, 1), 1);
    }

    private static void defineBad() {
        says(12, "BAD when there is no such dictionary, or kinds are not 1 .. 15 and 0 .. 15");
        PageStore x = withDictionary();
        for (int d : new int[] {LEAST, -1, 0, 2, 1024, MOST}) {
            CHECK.due("define(" + d + ", 1, 1, 1, 1)", x.define(d, 1, 1, 1, 1), BAD);
        }
        for (int kind : NO_KINDS) {
            CHECK.due("define(1, " + kind + ", 1, 1, 1)", x.define(1, kind, 1, 1, 1), BAD);
            CHECK.due("define(1, 1, 1, " + kind + ", 1)", x.define(1, 1, 1, kind, 1), BAD);
        }
        CHECK.due("define(1, 0, 1, 1, 1)", x.define(1, 0, 1, 1, 1), BAD);
        CHECK.due("count(1)", x.count(1), 0);
        CHECK.due("noted(0, 4)", x.noted(0, 4), 0);
        CHECK.due("define(1, 1, 1, 0, 1)", x.define(1, 1, 1, 0, 1), 1);
        CHECK.due("define(1, 15, 1, 15, 1)", x.define(1, 15, 1, 15, 1), 1);
    }

    private static void defineFull() {
        says(12, "FULL when it would have to come and 16384 have, or would have to be remembered and 40000 are.");
        PageStore x = withDictionary();
        x.save();
        for (int key = 0; key < 16384; key++) {
            x.define(1, 1, key, 1, key);
        }
        CHECK.due("define(1, 1, -1, 1, 1)", x.define(1, 1, -1, 1, 1), FULL);
        CHECK.due("define(1, 2, 0, 1, 1)", x.define(1, 2, 0, 1, 1), FULL);
        CHECK.due("define(1, 1, 16383, 1, 1)", x.define(1, 1, 16383, 1, 1), 0);
        x.restore(1);
        CHECK.due("define(1, 1, -1, 1, 1), with room", x.define(1, 1, -1, 1, 1), 1);
        PageStore y = fullMemories();
        CHECK.due("define(1, 1, 1, 1, 100), what it is", y.define(1, 1, 1, 1, 100), FULL);
        CHECK.due("define(1, 1, 2, 1, 1), gone", y.define(1, 1, 2, 1, 1), FULL);
        CHECK.due("define(1, 1, 3, 1, 1), which comes", y.define(1, 1, 3, 1, 1), 1);
        CHECK.due("define(1, 1, 3, 1, 2), come since", y.define(1, 1, 3, 1, 2), 0);
        CHECK.due("found(1, 1, 1)", y.found(1, 1, 1), 100);
    }

    private static void findBad() {
        says(13, "BAD when there is no such dictionary, or kind of key");
        PageStore x = withDictionary();
        x.define(1, 1, 0, 3, 3);
        x.save();
        x.dictionary();
        x.restore(1);
        for (int d : new int[] {LEAST, -1, 0, 2, 1024, MOST}) {
            CHECK.due("find(" + d + ", 1, 0)", x.find(d, 1, 0), BAD);
        }
        for (int kind : NO_KINDS) {
            CHECK.due("find(1, " + kind + ", 0)", x.find(1, kind, 0), BAD);
        }
        CHECK.due("find(1, 0, 0)", x.find(1, 0, 0), BAD);
        CHECK.due("find(1, 1, 0)", x.find(1, 1, 0), 3);
    }

    private static void findNo() {
        says(13, "NO when it has not come, or is gone.");
        PageStore x = withDictionary();
        x.dictionary();
        x.define(1, 1, 0, 0, 0);
        CHECK.due("find(1, 1, 1)", x.find(1, 1, 1), NO);
        CHECK.due("find(1, 15, 0)", x.find(1, 15, 0), NO);
        CHECK.due("find(2, 1, 0)", x.find(2, 1, 0), NO);
        CHECK.due("find(1, 1, 0), NULL is a value", x.find(1, 1, 0), 0);
        x.undefine(1, 1, 0);
        CHECK.due("find(1, 1, 0), gone", x.find(1, 1, 0), NO);
        x.save();
        x.define(1, 1, 7, 1, 1);
        x.restore(1);
        CHECK.due("find(1, 1, 7), gone with a restore", x.find(1, 1, 7), NO);
    }

    private static void foundNone() {
        says(14, "0 when find() is none.");
        PageStore x = withDictionary();
        x.define(1, 1, 0, 3, -7);
        x.define(1, 15, 0, 3, 8);
        for (int n : new int[] {LEAST, -1, 0, 2, 16, MOST}) {
            CHECK.due("found(" + n + ", 1, 0)", x.found(n, 1, 0), 0);
            CHECK.due("found(1, " + n + ", 0)", x.found(1, n, 0), 0);
        }
        CHECK.due("found(1, 1, 1), never come", x.found(1, 1, 1), 0);
        CHECK.due("found(1, 1, 0)", x.found(1, 1, 0), -7);
        CHECK.due("found(1, 15, 0)", x.found(1, 15, 0), 8);
        x.undefine(1, 1, 0);
        CHECK.due("found(1, 1, 0), gone", x.found(1, 1, 0), 0);
    }

    private static void undefineNo() {
        says(15, "A key is taken away: 1; NO when it is not there.");
        PageStore x = withDictionary();
        x.dictionary();
        CHECK.due("undefine(1, 1, 0), never come", x.undefine(1, 1, 0), NO);
        x.define(1, 1, 0, 0, 0);
        CHECK.due("undefine(2, 1, 0), another's", x.undefine(2, 1, 0), NO);
        CHECK.due("undefine(1, 1, 0)", x.undefine(1, 1, 0), 1);
        CHECK.due("undefine(1, 1, 0), gone", x.undefine(1, 1, 0), NO);
        x.save();
        CHECK.due("undefine(1, 1, 0), gone before", x.undefine(1, 1, 0), NO);
        CHECK.due("noted(0, 5)", x.noted(0, 5), 0);
        x.define(1, 1, 0, 1, 1);
        CHECK.due("undefine(1, 1, 0), there again", x.undefine(1, 1, 0), 1);
    }

    private static void undefineBad() {
        says(15, "BAD");
        PageStore x = withDictionary();
        x.define(1, 1, 0, 3, 3);
        for (int d : new int[] {LEAST, -1, 0, 2, 1024, MOST}) {
            CHECK.due("undefine(" + d + ", 1, 0)", x.undefine(d, 1, 0), BAD);
        }
        for (int kind : NO_KINDS) {
            CHECK.due("undefine(1, " + kind + ", 0)", x.undefine(1, kind, 0), BAD);
        }
        CHECK.due("undefine(1, 0, 0)", x.undefine(1, 0, 0), BAD);
        CHECK.due("found(1, 1, 0)", x.found(1, 1, 0), 3);
    }

    private static void undefineFull() {
        says(15, "FULL when it would have to be remembered and 40000 are.");
        PageStore x = fullMemories();
        CHECK.due("undefine(1, 1, 1)", x.undefine(1, 1, 1), FULL);
        CHECK.due("found(1, 1, 1)", x.found(1, 1, 1), 100);
        CHECK.due("undefine(1, 1, 2), gone", x.undefine(1, 1, 2), NO);
        x.define(1, 1, 3, 1, 1);
        CHECK.due("undefine(1, 1, 3), come since", x.undefine(1, 1, 3), 1);
        x.restore(2);
        CHECK.due("undefine(1, 1, 1), with room", x.undefine(1, 1, 1), 1);
        x.restore(1);
        CHECK.due("found(1, 1, 1), put back", x.found(1, 1, 1), 100);
    }

    private static void countNone() {
        says(16, "How many keys a dictionary has that are not gone");
        PageStore x = withDictionary();
        x.dictionary();
        CHECK.due("count(1), empty", x.count(1), 0);
        x.define(1, 1, 0, 0, 0);
        CHECK.due("count(1), a NULL", x.count(1), 1);
        CHECK.due("count(2)", x.count(2), 0);
        x.undefine(1, 1, 0);
        CHECK.due("count(1), all gone", x.count(1), 0);
        for (int key = 0; key < 400; key++) {
            x.define(1, 1, key, 1, 1);
        }
        CHECK.due("count(1), many", x.count(1), 400);
        CHECK.due("count(2), still", x.count(2), 0);
    }

    private static void countBad() {
        says(16, "BAD.");
        PageStore x = withDictionary();
        x.save();
        x.dictionary();
        CHECK.due("count(2)", x.count(2), 0);
        x.restore(1);
        for (int d : new int[] {LEAST, -1, 0, 2, 1024, 1025, MOST}) {
            CHECK.due("count(" + d + ")", x.count(d), BAD);
        }
    }

    private static void nextFirst() {
        says(17, "THE CURSOR comes to the first key of a dictionary that is not gone (keyKind 0)");
        PageStore x = withDictionary();
        x.dictionary();
        x.define(2, 1, 9, 1, 1);
        x.define(1, 15, MOST, 0, 0);
        x.define(1, 1, LEAST, 0, 0);
        for (int key : new int[] {LEAST, -1, 0, 9, MOST}) {
            CHECK.due("next(1, 0, " + key + ")", x.next(1, 0, key), 1);
            cursorAt("at the first", x, 15, MOST);
        }
        x.undefine(1, 15, MOST);
        CHECK.due("next(1, 0, 0), over a gone one", x.next(1, 0, 0), 1);
        cursorAt("at the second", x, 1, LEAST);
    }

    private static void nextBehind() {
        says(17, "or the first such one behind a key that came to it: 1");
        PageStore x = withDictionary();
        x.dictionary();
        for (int key = 1; key <= 5; key++) {
            x.define(1, 2, key, 1, 1);
            x.define(2, 2, key, 1, 1);
        }
        x.undefine(1, 2, 2);
        x.undefine(1, 2, 3);
        CHECK.due("next(1, 2, 1), over two gone ones", x.next(1, 2, 1), 1);
        cursorAt("behind them", x, 2, 4);
        CHECK.due("next(1, 2, 2), from a gone one", x.next(1, 2, 2), 1);
        cursorAt("behind it", x, 2, 4);
        CHECK.due("next(2, 2, 1), the other's", x.next(2, 2, 1), 1);
        cursorAt("in the other", x, 2, 2);
        CHECK.due("next(1, 2, 4)", x.next(1, 2, 4), 1);
        cursorAt("at the last", x, 2, 5);
    }

    private static void nextNone() {
        says(17, "0 when there is none: then the cursor is NULL.");
        PageStore x = withDictionary();
        x.dictionary();
        x.define(2, 4, 44, 1, 1);
        x.next(2, 0, 0);
        cursorAt("before", x, 4, 44);
        CHECK.due("next(1, 0, 5), empty", x.next(1, 0, 5), 0);
        cursorAt("of an empty one", x, 0, 0);
        x.next(2, 0, 0);
        CHECK.due("next(2, 4, 44), the last", x.next(2, 4, 44), 0);
        cursorAt("behind the last", x, 0, 0);
        x.next(2, 0, 0);
        x.undefine(2, 4, 44);
        CHECK.due("next(2, 4, 44), the last, gone", x.next(2, 4, 44), 0);
        cursorAt("behind the gone one", x, 0, 0);
        CHECK.due("next(2, 0, 0), all gone", x.next(2, 0, 0), 0);
    }

    private static void nextBad() {
        says(17, "BAD when there is no such dictionary, or keyKind is not 0 .. 15");
        PageStore x = withDictionary();
        x.define(1, 15, 0, 1, 1);
        x.next(1, 0, 0);
        for (int d : new int[] {LEAST, -1, 0, 2, 1024, MOST}) {
            CHECK.due("next(" + d + ", 0, 0)", x.next(d, 0, 0), BAD);
            CHECK.due("next(" + d + ", 15, 0)", x.next(d, 15, 0), BAD);
        }
        for (int kind : NO_KINDS) {
            CHECK.due("next(1, " + kind + ", 0)", x.next(1, kind, 0), BAD);
        }
        cursorAt("after BAD", x, 15, 0);
        CHECK.due("next(1, 15, 0)", x.next(1, 15, 0), 0);
    }

    private static void nextNo() {
        says(17, "NO when that key did not come.");
        PageStore x = withDictionary();
        x.dictionary();
        x.define(1, 1, 5, 1, 1);
        x.define(2, 1, 6, 1, 1);
        x.next(1, 0, 0);
        CHECK.due("next(1, 1, 6), another's", x.next(1, 1, 6), NO);
        CHECK.due("next(1, 2, 5), another kind", x.next(1, 2, 5), NO);
        CHECK.due("next(1, 15, 5), the last kind", x.next(1, 15, 5), NO);
        x.save();
        x.define(1, 1, 7, 1, 1);
        x.restore(1);
        CHECK.due("next(1, 1, 7), gone with a restore", x.next(1, 1, 7), NO);
        cursorAt("after NO", x, 1, 5);
    }

    private static void cursorAtFirst() {
        says(18, "0 at first.");
        PageStore x = withDictionary();
        x.define(1, 3, 33, 1, 1);
        x.find(1, 3, 33);
        x.save();
        x.restore(1);
        cursorAt("before any next()", x, 0, 0);
        x.next(1, 3, 34);
        x.next(2, 0, 0);
        cursorAt("after NO and BAD", x, 0, 0);
    }

    private static void cursorAsItWas() {
        says(18, "The kind of the cursor's key, as it was when the cursor came there");
        PageStore x = withDictionary();
        x.define(1, 15, LEAST, 1, 1);
        x.save();
        x.define(1, 1, MOST, 1, 1);
        x.next(1, 15, LEAST);
        cursorAt("there", x, 1, MOST);
        x.define(1, 1, MOST, 2, 2);
        cursorAt("when its value is another", x, 1, MOST);
        x.undefine(1, 1, MOST);
        cursorAt("when it is gone", x, 1, MOST);
        x.restore(1);
        cursorAt("when it never came", x, 1, MOST);
        x.define(1, 2, 22, 1, 1);
        cursorAt("when another has its turn", x, 1, MOST);
    }

    private static void saveFull() {
        says(20, "A SAVE: how many there are now. FULL when there are 15.");
        PageStore x = new PageStore();
        for (int k = 1; k <= 14; k++) {
            CHECK.due("save()", x.save(), k);
        }
        CHECK.due("save(), the last", x.save(), 15);
        CHECK.due("save(), one too many", x.save(), FULL);
        CHECK.due("noted(16, 0)", x.noted(16, 0), BAD);
        CHECK.due("restore(15)", x.restore(15), 14);
        CHECK.due("save()", x.save(), 15);
        CHECK.due("save(), one too many again", x.save(), FULL);
    }

    private static void restoreBad() {
        says(21, "BAD when there is no such save.");
        PageStore x = new PageStore();
        CHECK.due("restore(0), without one", x.restore(0), BAD);
        CHECK.due("restore(1), without one", x.restore(1), BAD);
        x.values(1);
        x.save();
        x.set(1, 0, 1, 1);
        for (int k : new int[] {LEAST, -1, 0, 2, 15, 16, MOST}) {
            CHECK.due("restore(" + k + ")", x.restore(k), BAD);
        }
        CHECK.due("get(1, 0) after BAD", x.get(1, 0), 1);
        CHECK.due("restore(1)", x.restore(1), 0);
        CHECK.due("restore(1), gone", x.restore(1), BAD);
    }

    private static void restoreAnswers() {
        says(21, "RESTORE to the k-th save, counted from 1: how many there are now.");
        for (int k = 1; k <= 15; k++) {
            PageStore x = new PageStore();
            for (int s = 1; s <= 15; s++) {
                x.save();
                x.values(1);
            }
            CHECK.due("restore(" + k + ") of 15", x.restore(k), k - 1);
            CHECK.due("noted(0, 0)", x.noted(0, 0), k - 1);
            CHECK.due("noted(" + k + ", 0)", x.noted(k, 0), BAD);
        }
    }

    private static void notedNow() {
        says(22, "How many rows .. keys there were at the k-th save (k = 0: there are now)");
        PageStore x = withDictionary();
        x.values(32768);
        x.bytes(65536);
        x.part(2, 0, 65536);
        x.values(1);
        x.define(1, 1, 1, 1, 1);
        x.undefine(1, 1, 1);
        CHECK.counts("now", x, 3, 32768, 65536, 1, 1, 0);
    }

    private static void notedAtSaves() {
        says(22, "How many rows .. keys there were at the k-th save");
        PageStore x = new PageStore();
        for (int k = 1; k <= 15; k++) {
            x.save();
            x.values(2);
            x.bytes(3);
            x.dictionary();
            x.define(k, 1, 1, 1, 1);
        }
        int[] each = {2, 2, 3, 1, 1};
        for (int k = 1; k <= 15; k++) {
            for (int what = 0; what < 5; what++) {
                CHECK.due("noted(" + k + ", " + what + ")", x.noted(k, what), (k - 1) * each[what]);
            }
        }
    }

    private static void notedRemembered() {
        says(22, "how many are remembered in all (5; k = 0 alone)");
        PageStore x = new PageStore();
        x.values(2);
        CHECK.due("noted(0, 5), no save", x.noted(0, 5), 0);
        x.save();
        x.set(1, 0, 1, 1);
        x.set(1, 1, 1, 1);
        x.save();
        x.set(1, 0, 1, 1);
        CHECK.due("noted(0, 5), of both", x.noted(0, 5), 3);
        CHECK.due("noted(1, 5)", x.noted(1, 5), BAD);
        CHECK.due("noted(2, 5)", x.noted(2, 5), BAD);
        CHECK.due("noted(3, 5)", x.noted(3, 5), BAD);
        CHECK.due("noted(-1, 5)", x.noted(-1, 5), BAD);
    }

    private static void notedBad() {
        says(22, "BAD when there is no such save, or what.");
        PageStore x = new PageStore();
        x.values(2);
        x.save();
        for (int n : new int[] {LEAST, -6, -1, 6, 7, MOST}) {
            CHECK.due("noted(0, " + n + ")", x.noted(0, n), BAD);
            CHECK.due("noted(1, " + n + ")", x.noted(1, n), BAD);
            CHECK.due("noted(" + n + ", 0)", x.noted(n, 0), BAD);
        }
        CHECK.due("noted(2, 0)", x.noted(2, 0), BAD);
        CHECK.due("noted(15, 0)", x.noted(15, 0), BAD);
        CHECK.due("noted(16, 0)", x.noted(16, 0), BAD);
        CHECK.due("noted(1, 0)", x.noted(1, 0), 1);
        x.restore(1);
        CHECK.due("noted(1, 0), gone", x.noted(1, 0), BAD);
    }
}
