/** The document's "Terms": each sentence that names a boundary has its own test here. */
public final class TermsTest {
    private static final int BAD = PageStore.BAD;
    private static final int NO = PageStore.NO;
    private static final int FULL = PageStore.FULL;
    private static final int LEAST = Integer.MIN_VALUE;
    private static final int MOST = Integer.MAX_VALUE;
    private static final Check CHECK = new Check("TermsTest");

    public static void main(String[] args) {
        kindsAndNumbers();
        nullsNumber();
        placesFromZero();
        rowNumbers();
        mostRows();
        mostPlaces();
        mostBytes();
        takenOnce();
        dictionaryNumbers();
        keyKinds();
        keysTurn();
        goneKeys();
        mostKeys();
        oneSaveOverTheOther();
        theLastOfThoseAtTheSave();
        rememberedTheFirstTime();
        goneKeysAreRemembered();
        theLatestSaveAlone();
        mostRemembered();
        putBackAsAtThatSave();
        numbersAgain();
        takenAgain();
        savesOverItAreGone();
        bytesStay();
        CHECK.end();
    }

    private static void says(String words) {
        CHECK.says("Terms", words);
    }

    private static void remembered(PageStore x, String when, int want) {
        CHECK.due("noted(0, 5) " + when, x.noted(0, 5), want);
    }

    private static PageStore withDictionary() {
        PageStore x = new PageStore();
        x.dictionary();
        return x;
    }

    private static void kindsAndNumbers() {
        says("A VALUE is a KIND, 0 .. 15, and a NUMBER (32 bits)");
        PageStore x = withDictionary();
        x.values(1);
        for (int number : new int[] {LEAST, LEAST + 1, -65537, -1, 0, 1, 65536, MOST - 1, MOST}) {
            for (int kind : new int[] {1, 8, 15}) {
                CHECK.due("set(1, 0, " + kind + ", " + number + ")", x.set(1, 0, kind, number), 1);
                CHECK.due("get(1, 0)", x.get(1, 0), kind);
                CHECK.due("number(1, 0)", x.number(1, 0), number);
            }
            x.define(1, 1, number, 15, number);
            CHECK.due("find(1, 1, " + number + ")", x.find(1, 1, number), 15);
            CHECK.due("found(1, 1, " + number + ")", x.found(1, 1, number), number);
        }
        CHECK.due("count(1): no two numbers are the same key", x.count(1), 9);
    }

    private static void nullsNumber() {
        says("NULL is kind 0, number 0 (for kind 0 any number that is told counts as 0)");
        for (int number : new int[] {LEAST, -1, 1, 9, MOST}) {
            PageStore x = withDictionary();
            x.values(1);
            x.set(1, 0, 7, 70);
            CHECK.due("set(1, 0, 0, " + number + ")", x.set(1, 0, 0, number), 1);
            CHECK.due("get(1, 0)", x.get(1, 0), 0);
            CHECK.due("number(1, 0)", x.number(1, 0), 0);
            x.define(1, 2, 3, 7, 70);
            x.define(1, 2, 3, 0, number);
            x.define(1, 2, 4, 0, number);
            CHECK.due("find(1, 2, 3)", x.find(1, 2, 3), 0);
            CHECK.due("found(1, 2, 3)", x.found(1, 2, 3), 0);
            CHECK.due("found(1, 2, 4)", x.found(1, 2, 4), 0);
            CHECK.due("count(1): NULL is a value", x.count(1), 2);
            x.save();
            x.set(1, 0, 1, 1);
            x.define(1, 2, 3, 1, 1);
            x.restore(1);
            CHECK.due("number(1, 0) put back", x.number(1, 0), 0);
            CHECK.due("find(1, 2, 3) put back", x.find(1, 2, 3), 0);
            CHECK.due("found(1, 2, 3) put back", x.found(1, 2, 3), 0);
        }
    }

    private static void placesFromZero() {
        says("its places are numbered from 0");
        PageStore x = new PageStore();
        x.values(3);
        x.bytes(3);
        x.part(1, 1, 2);
        x.part(2, 1, 2);
        CHECK.due("set(3, 0, 1, 10)", x.set(3, 0, 1, 10), 1);
        CHECK.due("number(1, 1)", x.number(1, 1), 10);
        CHECK.due("set(3, 1, 1, 11)", x.set(3, 1, 1, 11), 1);
        CHECK.due("number(1, 2)", x.number(1, 2), 11);
        CHECK.due("set(3, 2, 1, 12)", x.set(3, 2, 1, 12), BAD);
        CHECK.due("set(3, -1, 1, 12)", x.set(3, -1, 1, 12), BAD);
        CHECK.due("setByte(4, 0, 20)", x.setByte(4, 0, 20), 1);
        CHECK.due("get(2, 1)", x.get(2, 1), 20);
        CHECK.due("setByte(4, 2, 21)", x.setByte(4, 2, 21), BAD);
        CHECK.due("setByte(4, -1, 21)", x.setByte(4, -1, 21), BAD);
        CHECK.due("get(2, 0)", x.get(2, 0), 0);
    }

    private static void rowNumbers() {
        says("Rows have numbers 1, 2, .. in the order in which they are made");
        PageStore x = new PageStore();
        CHECK.due("bytes(1)", x.bytes(1), 1);
        CHECK.due("values(1)", x.values(1), 2);
        CHECK.due("values(-1)", x.values(-1), BAD);
        CHECK.due("part(1, 0, 1)", x.part(1, 0, 1), 3);
        CHECK.due("part(1, 0, 2)", x.part(1, 0, 2), BAD);
        CHECK.due("bytes(0)", x.bytes(0), 4);
        CHECK.due("values(0)", x.values(0), 5);
    }

    private static PageStore rowsButOne() {
        PageStore x = new PageStore();
        x.values(4);
        x.set(1, 0, 9, 90);
        for (int row = 2; row <= 16383; row++) {
            x.part(1, 0, 1);
        }
        return x;
    }

    private static void noMoreRows(String last, PageStore x, int row, int sort) {
        CHECK.due(last + ", the last row", row, 16384);
        CHECK.due("sort(16384)", x.sort(16384), sort);
        CHECK.due("length(16384)", x.length(16384), 1);
        CHECK.due("get(16384, 0)", x.get(16384, 0), 0);
        CHECK.due("values(1)", x.values(1), FULL);
        CHECK.due("bytes(1)", x.bytes(1), FULL);
        CHECK.due("part(1, 1, 1)", x.part(1, 1, 1), FULL);
        CHECK.due("noted(0, 0)", x.noted(0, 0), 16384);
        CHECK.due("sort(16385)", x.sort(16385), BAD);
    }

    private static void mostRows() {
        says("16384 at most");
        PageStore x = rowsButOne();
        noMoreRows("values(1)", x, x.values(1), 1);
        PageStore y = rowsButOne();
        noMoreRows("bytes(1)", y, y.bytes(1), 2);
        PageStore z = rowsButOne();
        noMoreRows("part(1, 3, 1)", z, z.part(1, 3, 1), 1);
    }

    private static void mostPlaces() {
        says("There are at most 32768 places");
        PageStore x = new PageStore();
        CHECK.due("values(32767)", x.values(32767), 1);
        CHECK.due("values(2)", x.values(2), FULL);
        CHECK.due("values(1)", x.values(1), 2);
        CHECK.due("values(1), one too many", x.values(1), FULL);
        CHECK.due("values(0)", x.values(0), 3);
        CHECK.due("part(1, 0, 32767) takes none", x.part(1, 0, 32767), 4);
        CHECK.due("noted(0, 1)", x.noted(0, 1), 32768);
        CHECK.due("set(2, 0, 15, 9), the last place", x.set(2, 0, 15, 9), 1);
        CHECK.due("number(2, 0)", x.number(2, 0), 9);
        CHECK.due("get(1, 32766), the one before", x.get(1, 32766), 0);
        CHECK.due("get(1, 32767)", x.get(1, 32767), BAD);
    }

    private static void mostBytes() {
        says("and 65536 bytes");
        PageStore x = new PageStore();
        CHECK.due("bytes(65535)", x.bytes(65535), 1);
        CHECK.due("bytes(2)", x.bytes(2), FULL);
        CHECK.due("bytes(1)", x.bytes(1), 2);
        CHECK.due("bytes(1), one too many", x.bytes(1), FULL);
        CHECK.due("bytes(0)", x.bytes(0), 3);
        CHECK.due("part(1, 0, 65535) takes none", x.part(1, 0, 65535), 4);
        CHECK.due("noted(0, 2)", x.noted(0, 2), 65536);
        CHECK.due("setByte(2, 0, 9), the last byte", x.setByte(2, 0, 9), 1);
        CHECK.due("get(2, 0)", x.get(2, 0), 9);
        CHECK.due("get(1, 65534), the one before", x.get(1, 65534), 0);
        CHECK.due("get(1, 65535)", x.get(1, 65535), BAD);
    }

    private static void takenOnce() {
        says("a row that is made new takes some that were not taken yet");
        PageStore x = new PageStore();
        for (int row = 1; row <= 10; row++) {
            x.values(row % 4);
            x.bytes(row % 3);
        }
        for (int row = 1; row <= 20; row++) {
            for (int i = 0; i < x.length(row); i++) {
                x.set(row, i, 1, row * 10 + i);
                x.setByte(row, i, row * 10 + i);
            }
        }
        for (int row = 1; row <= 20; row++) {
            for (int i = 0; i < x.length(row); i++) {
                int got = x.sort(row) == 1 ? x.number(row, i) : x.get(row, i);
                CHECK.due("what row " + row + " has at " + i, got, row * 10 + i);
            }
        }
    }

    private static void dictionaryNumbers() {
        says("DICTIONARIES are numbered 1, 2, .. likewise, 1024 at most");
        PageStore x = new PageStore();
        for (int d = 1; d <= 1024; d++) {
            CHECK.due("dictionary()", x.dictionary(), d);
        }
        CHECK.due("dictionary(), one too many", x.dictionary(), FULL);
        CHECK.due("define(1024, 1, 1, 1, 1)", x.define(1024, 1, 1, 1, 1), 1);
        CHECK.due("count(1024)", x.count(1024), 1);
        CHECK.due("count(1023)", x.count(1023), 0);
        CHECK.due("count(1025)", x.count(1025), BAD);
        CHECK.due("noted(0, 3)", x.noted(0, 3), 1024);
    }

    private static void keyKinds() {
        says("A KEY is a kind 1 .. 15 and a number");
        PageStore x = withDictionary();
        for (int kind : new int[] {LEAST, -1, 0, 16, 17, MOST}) {
            CHECK.due("define(1, " + kind + ", 0, 1, 1)", x.define(1, kind, 0, 1, 1), BAD);
        }
        for (int kind = 1; kind <= 15; kind++) {
            CHECK.due("define(1, " + kind + ", 0, 1, ..)", x.define(1, kind, 0, 1, kind), 1);
            CHECK.due("define(1, " + kind + ", -1, 1, ..)", x.define(1, kind, -1, 1, -kind), 1);
        }
        for (int kind = 1; kind <= 15; kind++) {
            CHECK.due("found(1, " + kind + ", 0)", x.found(1, kind, 0), kind);
            CHECK.due("found(1, " + kind + ", -1)", x.found(1, kind, -1), -kind);
        }
    }

    private static void keysTurn() {
        says("it keeps its turn behind those that came before for ever");
        PageStore x = withDictionary();
        for (int key = 5; key >= 1; key--) {
            x.define(1, 3, key, 1, key);
        }
        x.undefine(1, 3, 5);
        x.undefine(1, 3, 3);
        x.define(1, 3, 3, 2, 33);
        x.define(1, 3, 4, 2, 44);
        x.save();
        x.undefine(1, 3, 4);
        x.define(1, 3, 5, 2, 55);
        turns(x, "with the first there again", 5, 3, 2, 1);
        x.restore(1);
        turns(x, "put back", 4, 3, 2, 1);
        x.define(1, 3, 5, 2, 55);
        turns(x, "with all there", 5, 4, 3, 2, 1);
    }

    private static void turns(PageStore x, String when, int... keys) {
        int got = x.next(1, 0, 0);
        for (int key : keys) {
            CHECK.due("next() " + when, got, 1);
            CHECK.due("cursorKind() " + when, x.cursorKind(), 3);
            CHECK.due("cursorNumber() " + when, x.cursorNumber(), key);
            got = x.next(1, 3, key);
        }
        CHECK.due("next() behind the last " + when, got, 0);
    }

    private static void goneKeys() {
        says("when it is taken away it is GONE, until it gets a value again");
        PageStore x = withDictionary();
        CHECK.due("define()", x.define(1, 3, 1, 4, 40), 1);
        for (int round = 0; round < 3; round++) {
            CHECK.due("undefine()", x.undefine(1, 3, 1), 1);
            CHECK.due("find()", x.find(1, 3, 1), NO);
            CHECK.due("found()", x.found(1, 3, 1), 0);
            CHECK.due("count()", x.count(1), 0);
            CHECK.due("noted(0, 4)", x.noted(0, 4), 1);
            CHECK.due("define(), it does not come again", x.define(1, 3, 1, round, 41), 0);
            CHECK.due("find()", x.find(1, 3, 1), round);
            CHECK.due("count()", x.count(1), 1);
        }
    }

    private static void mostKeys() {
        says("At most 16384 keys come in all");
        PageStore x = new PageStore();
        for (int d = 1; d <= 4; d++) {
            x.dictionary();
        }
        for (int key = 0; key < 16383; key++) {
            x.define(1 + key % 3, 1 + key % 15, key, 1, key);
        }
        x.undefine(1, 1, 0);
        CHECK.due("define() of the last", x.define(4, 1, 1, 1, 1), 1);
        CHECK.due("define() of one too many, though one is gone", x.define(4, 1, 2, 1, 1), FULL);
        CHECK.due("define() of one too many elsewhere", x.define(1, 15, 1, 1, 1), FULL);
        CHECK.due("define() of one that came", x.define(4, 1, 1, 1, 2), 0);
        CHECK.due("define() of the gone one", x.define(1, 1, 0, 1, 2), 0);
        CHECK.due("noted(0, 4)", x.noted(0, 4), 16384);
    }

    private static void oneSaveOverTheOther() {
        says("15 at most, one over the other");
        PageStore x = new PageStore();
        x.values(1);
        for (int k = 1; k <= 15; k++) {
            x.set(1, 0, 1, k);
            CHECK.due("save()", x.save(), k);
        }
        CHECK.due("save(), one too many", x.save(), FULL);
        x.set(1, 0, 1, 16);
        for (int k = 15; k >= 1; k--) {
            CHECK.due("restore(" + k + ")", x.restore(k), k - 1);
            CHECK.due("number(1, 0) at save " + k, x.number(1, 0), k);
        }
        CHECK.due("save()", x.save(), 1);
    }

    private static void theLastOfThoseAtTheSave() {
        says("a place, or a key that had come, of those at the latest save");
        PageStore x = withDictionary();
        x.values(2);
        x.define(1, 3, 1, 1, 1);
        x.define(1, 3, 2, 1, 1);
        x.save();
        x.values(2);
        x.define(1, 3, 3, 1, 1);
        x.set(2, 0, 1, 1);
        remembered(x, "the first place since", 0);
        x.set(2, 1, 1, 1);
        remembered(x, "the second place since", 0);
        x.define(1, 3, 3, 1, 2);
        x.undefine(1, 3, 3);
        remembered(x, "the first key since", 0);
        x.define(1, 3, 4, 1, 1);
        x.define(1, 3, 4, 1, 2);
        remembered(x, "the second key since", 0);
        x.set(1, 1, 1, 1);
        remembered(x, "the last place of the save", 1);
        x.define(1, 3, 2, 1, 1);
        remembered(x, "the last key of the save", 2);
        x.set(1, 0, 1, 1);
        x.undefine(1, 3, 1);
        remembered(x, "the first ones of the save", 4);
    }

    private static void rememberedTheFirstTime() {
        says("the first time .. is set (also to the same value) or taken away since that save");
        PageStore x = withDictionary();
        x.values(1);
        x.set(1, 0, 4, 40);
        x.define(1, 3, 1, 5, 50);
        x.save();
        x.set(1, 0, 4, 40);
        remembered(x, "a place set to the same value", 1);
        x.set(1, 0, 6, 60);
        remembered(x, "that place once more", 1);
        x.define(1, 3, 1, 5, 50);
        remembered(x, "a key set to the same value", 2);
        x.undefine(1, 3, 1);
        x.define(1, 3, 1, 7, 70);
        remembered(x, "that key once more", 2);
        x.restore(1);
        x.save();
        x.set(1, 0, 8, 80);
        remembered(x, "the place, behind another save", 1);
        x.undefine(1, 3, 1);
        remembered(x, "a key taken away", 2);
        x.restore(1);
        CHECK.due("number(1, 0)", x.number(1, 0), 40);
        CHECK.due("found(1, 3, 1)", x.found(1, 3, 1), 50);
    }

    private static void goneKeysAreRemembered() {
        says("a key that had come (also one that is gone)");
        PageStore x = withDictionary();
        x.define(1, 3, 1, 5, 50);
        x.undefine(1, 3, 1);
        x.save();
        x.define(1, 3, 1, 6, 60);
        remembered(x, "the gone key set", 1);
        x.restore(1);
        CHECK.due("find(1, 3, 1), gone again", x.find(1, 3, 1), NO);
        CHECK.due("found(1, 3, 1)", x.found(1, 3, 1), 0);
        CHECK.due("next(1, 3, 1): it had come", x.next(1, 3, 1), 0);
    }

    private static void theLatestSaveAlone() {
        says("of those at the latest save .. since that save, it is REMEMBERED");
        PageStore x = withDictionary();
        x.values(1);
        x.save();
        x.set(1, 0, 1, 1);
        x.values(1);
        x.define(1, 3, 1, 1, 1);
        x.save();
        x.set(1, 0, 1, 2);
        remembered(x, "again for the second", 2);
        x.set(2, 0, 1, 2);
        x.define(1, 3, 1, 1, 2);
        remembered(x, "what came between", 4);
        x.restore(2);
        remembered(x, "those of the first", 1);
        x.set(1, 0, 1, 3);
        x.set(2, 0, 1, 3);
        x.undefine(1, 3, 1);
        remembered(x, "the first is the latest now", 1);
        x.restore(1);
        CHECK.due("get(1, 0)", x.get(1, 0), 0);
    }

    private static PageStore memoriesButOne() {
        PageStore x = withDictionary();
        x.values(2860);
        x.define(1, 3, 1, 5, 50);
        x.define(1, 3, 2, 5, 51);
        x.undefine(1, 3, 2);
        for (int k = 1; k <= 14; k++) {
            x.save();
            for (int i = 0; i < (k < 14 ? 2860 : 40000 - 1 - 13 * 2860); i++) {
                x.set(1, i, 1, k);
            }
        }
        return x;
    }

    private static void mostRemembered() {
        says("40000 at most are remembered, for all saves that there are together");
        PageStore x = memoriesButOne();
        remembered(x, "with one left", 39999);
        CHECK.due("set() as the last", x.set(1, 2859, 2, 2), 1);
        remembered(x, "with none left", 40000);
        CHECK.due("set() of one too many", x.set(1, 2858, 2, 2), FULL);
        CHECK.due("set() of one that is remembered", x.set(1, 2859, 2, 3), 1);
        CHECK.due("values(1)", x.values(1), 2);
        CHECK.due("set() of a place that came since", x.set(2, 0, 2, 2), 1);
        CHECK.due("define() of a key that comes", x.define(1, 3, 3, 1, 1), 1);
        CHECK.due("define() of a key that came since", x.define(1, 3, 3, 1, 2), 0);
        CHECK.due("undefine() of a key that came since", x.undefine(1, 3, 3), 1);
        CHECK.due("save()", x.save(), 15);
        CHECK.due("set() behind a new save", x.set(1, 2859, 2, 4), FULL);
        CHECK.due("restore(14)", x.restore(14), 13);
        remembered(x, "for 13 saves", 13 * 2860);
        CHECK.due("define() of an old key", x.define(1, 3, 1, 1, 1), 0);
        PageStore y = memoriesButOne();
        CHECK.due("define() as the last", y.define(1, 3, 1, 6, 60), 0);
        CHECK.due("define() of one too many", y.define(1, 3, 2, 6, 60), FULL);
        CHECK.due("undefine() of the remembered one", y.undefine(1, 3, 1), 1);
        PageStore z = memoriesButOne();
        CHECK.due("undefine() as the last", z.undefine(1, 3, 1), 1);
        CHECK.due("define() of the remembered one", z.define(1, 3, 1, 6, 60), 0);
        CHECK.due("set() of one too many", z.set(1, 2859, 2, 2), FULL);
        CHECK.due("restore(14)", z.restore(14), 13);
        CHECK.due("found(1, 3, 1)", z.found(1, 3, 1), 50);
    }

    private static void putBackAsAtThatSave() {
        says("all that was remembered for it and for those over it becomes what it was at that save");
        PageStore x = withDictionary();
        x.values(4);
        x.set(1, 3, 9, 90);
        for (int k = 1; k <= 4; k++) {
            x.set(1, 0, 1, k * 10);
            x.define(1, 3, 1, 2, k * 100);
            x.save();
            x.set(1, 1, k, k);
        }
        x.set(1, 0, 1, 50);
        x.undefine(1, 3, 1);
        CHECK.due("restore(3)", x.restore(3), 2);
        CHECK.due("number(1, 0) at the third", x.number(1, 0), 30);
        CHECK.due("get(1, 1) at the third", x.get(1, 1), 2);
        CHECK.due("found(1, 3, 1) at the third", x.found(1, 3, 1), 300);
        CHECK.due("restore(1)", x.restore(1), 0);
        CHECK.due("number(1, 0) at the first", x.number(1, 0), 10);
        CHECK.due("get(1, 1) at the first", x.get(1, 1), 0);
        CHECK.due("found(1, 3, 1) at the first", x.found(1, 3, 1), 100);
        CHECK.due("get(1, 2), never set", x.get(1, 2), 0);
        CHECK.due("number(1, 3), set before", x.number(1, 3), 90);
    }

    private static void numbersAgain() {
        says("rows, dictionaries and keys that came since are gone (so that the next ones have their numbers again)");
        PageStore x = withDictionary();
        x.values(2);
        x.define(1, 3, 1, 5, 50);
        x.save();
        x.bytes(3);
        x.part(1, 0, 1);
        x.dictionary();
        x.define(1, 3, 2, 5, 51);
        x.define(2, 3, 1, 5, 52);
        x.restore(1);
        CHECK.due("sort(2)", x.sort(2), BAD);
        CHECK.due("length(3)", x.length(3), BAD);
        CHECK.due("count(2)", x.count(2), BAD);
        CHECK.due("find(1, 3, 2)", x.find(1, 3, 2), NO);
        CHECK.due("next(1, 3, 2)", x.next(1, 3, 2), NO);
        CHECK.due("next(1, 3, 1)", x.next(1, 3, 1), 0);
        CHECK.due("count(1)", x.count(1), 1);
        CHECK.due("part(1, 1, 1)", x.part(1, 1, 1), 2);
        CHECK.due("sort(2), another row now", x.sort(2), 1);
        CHECK.due("length(2)", x.length(2), 1);
        CHECK.due("dictionary()", x.dictionary(), 2);
        CHECK.due("count(2), empty now", x.count(2), 0);
        CHECK.due("find(2, 3, 1)", x.find(2, 3, 1), NO);
        CHECK.due("define(2, 3, 1, 6, 60) comes", x.define(2, 3, 1, 6, 60), 1);
        CHECK.due("define(1, 3, 2, 6, 61) comes", x.define(1, 3, 2, 6, 61), 1);
    }

    private static void takenAgain() {
        says("places and bytes that were taken since can be taken again");
        PageStore x = new PageStore();
        x.values(1);
        x.bytes(1);
        x.save();
        for (int round = 0; round < 3; round++) {
            CHECK.due("values(32767)", x.values(32767), 3);
            CHECK.due("bytes(65535)", x.bytes(65535), 4);
            CHECK.due("get(3, 0), NULL", x.get(3, 0), 0);
            CHECK.due("number(3, 32766), NULL", x.number(3, 32766), 0);
            CHECK.due("get(4, 0), a 0", x.get(4, 0), 0);
            CHECK.due("get(4, 65534), a 0", x.get(4, 65534), 0);
            x.set(3, 0, 1, 1);
            x.set(3, 32766, 1, 1);
            x.setByte(4, 0, 1);
            x.setByte(4, 65534, 1);
            CHECK.due("values(1)", x.values(1), FULL);
            CHECK.due("bytes(1)", x.bytes(1), FULL);
            CHECK.due("restore(1)", x.restore(1), 0);
            CHECK.due("save()", x.save(), 1);
        }
    }

    private static void savesOverItAreGone() {
        says("the save and those over it are gone, and what was remembered for them");
        PageStore x = new PageStore();
        x.values(2);
        for (int k = 1; k <= 5; k++) {
            x.save();
            x.set(1, 0, 1, k);
            x.set(1, 1, 1, k);
        }
        remembered(x, "for five", 10);
        CHECK.due("restore(3)", x.restore(3), 2);
        remembered(x, "for two", 4);
        for (int k = 3; k <= 5; k++) {
            CHECK.due("noted(" + k + ", 0)", x.noted(k, 0), BAD);
            CHECK.due("restore(" + k + ")", x.restore(k), BAD);
        }
        CHECK.due("noted(2, 0)", x.noted(2, 0), 1);
        CHECK.due("save()", x.save(), 3);
        CHECK.due("restore(1)", x.restore(1), 0);
        remembered(x, "for none", 0);
        CHECK.due("noted(1, 0)", x.noted(1, 0), BAD);
        x.set(1, 0, 9, 90);
        x.save();
        CHECK.due("restore(1), with none remembered", x.restore(1), 0);
        CHECK.due("number(1, 0), as at the last save", x.number(1, 0), 90);
    }

    private static void bytesStay() {
        says("Bytes stay as they are");
        PageStore x = new PageStore();
        x.bytes(2);
        x.part(1, 1, 1);
        x.setByte(1, 0, 10);
        x.setByte(1, 1, 11);
        x.save();
        x.setByte(1, 0, 20);
        x.save();
        x.setByte(2, 0, 255);
        CHECK.due("restore(1)", x.restore(1), 0);
        CHECK.due("get(1, 0)", x.get(1, 0), 20);
        CHECK.due("get(1, 1)", x.get(1, 1), 255);
        CHECK.due("length(1)", x.length(1), 2);
    }
}
