/**
 * The limits that no 512 calls can reach: rows, dictionaries, keys, and what is remembered. The
 * document leaves answers after the 512th call free; this program keeps to the limits there too.
 */
public final class LimitsTest {
    private static final int BAD = PageStore.BAD;
    private static final int NO = PageStore.NO;
    private static final int FULL = PageStore.FULL;
    private static final Check CHECK = new Check("LimitsTest");

    public static void main(String[] args) {
        rows();
        dictionaries();
        keys();
        memories();
        CHECK.end();
    }

    private static void rows() {
        PageStore x = new PageStore();
        x.values(2);
        x.save();
        int last = 1;
        for (int i = 2; i <= 16384; i++) {
            last = i % 3 == 0 ? x.part(1, 1, 1) : i % 3 == 1 ? x.values(1) : x.bytes(1);
        }
        CHECK.due("the last row", last, 16384);
        CHECK.due("sort(16384)", x.sort(16384), 1);
        CHECK.due("length(16384)", x.length(16384), 1);
        x.set(16384, 0, 5, 55);
        CHECK.due("number(16384, 0)", x.number(16384, 0), 55);
        CHECK.due("number(1, 0), another place", x.number(1, 0), 0);
        CHECK.due("sort(16383)", x.sort(16383), 1);
        CHECK.due("sort(16382)", x.sort(16382), 2);
        int places = x.noted(0, 1);
        CHECK.due("values(0)", x.values(0), FULL);
        CHECK.due("values(1)", x.values(1), FULL);
        CHECK.due("values(-1)", x.values(-1), BAD);
        CHECK.due("bytes(0)", x.bytes(0), FULL);
        CHECK.due("bytes(65537)", x.bytes(65537), BAD);
        CHECK.due("part(1, 0, 1)", x.part(1, 0, 1), FULL);
        CHECK.due("part(1, 0, 3)", x.part(1, 0, 3), BAD);
        CHECK.due("sort(16385)", x.sort(16385), BAD);
        CHECK.due("noted(0, 0)", x.noted(0, 0), 16384);
        CHECK.due("noted(0, 1)", x.noted(0, 1), places);
        x.restore(1);
        CHECK.due("values(1) after the restore", x.values(1), 2);
    }

    private static void dictionaries() {
        PageStore x = new PageStore();
        for (int d = 1; d <= 1024; d++) {
            CHECK.due("dictionary()", x.dictionary(), d);
        }
        CHECK.due("dictionary() over 1024", x.dictionary(), FULL);
        CHECK.due("noted(0, 3)", x.noted(0, 3), 1024);
        CHECK.due("define(1024, 1, 1, 1, 1)", x.define(1024, 1, 1, 1, 1), 1);
        CHECK.due("count(1025)", x.count(1025), BAD);
    }

    private static void keys() {
        PageStore x = new PageStore();
        x.dictionary();
        x.dictionary();
        for (int i = 0; i < 16384; i++) {
            x.define(1 + i % 2, 3, i, 4, -i);
        }
        CHECK.due("noted(0, 4)", x.noted(0, 4), 16384);
        CHECK.due("define() of one more", x.define(1, 3, 16384, 4, 4), FULL);
        CHECK.due("define() of one more, wrong", x.define(1, 3, 16384, 16, 4), BAD);
        CHECK.due("find() of it", x.find(1, 3, 16384), NO);
        CHECK.due("count(1)", x.count(1), 8192);
        CHECK.due("define() of the last", x.define(2, 3, 16383, 5, 5), 0);
        CHECK.due("found() of it", x.found(2, 3, 16383), 5);
        CHECK.due("undefine() of it", x.undefine(2, 3, 16383), 1);
        CHECK.due("define() of one more, still", x.define(1, 3, 16384, 4, 4), FULL);
        CHECK.due("define() of the gone one", x.define(2, 3, 16383, 6, 6), 0);
        CHECK.due("found() of another", x.found(2, 3, 8191), -8191);
    }

    private static void memories() {
        PageStore x = new PageStore();
        x.values(32768);
        x.dictionary();
        x.define(1, 1, 1, 1, 100);
        x.define(1, 1, 2, 1, 200);
        x.undefine(1, 1, 2);
        for (int i = 0; i < 32768; i++) {
            x.set(1, i, 1, i);
        }
        x.save();
        for (int i = 0; i < 32768; i++) {
            x.set(1, i, 2, -i);
        }
        x.save();
        for (int i = 0; i < 40000 - 32768; i++) {
            x.set(1, i, 3, 7);
        }
        CHECK.due("noted(0, 5)", x.noted(0, 5), 40000);
        CHECK.due("set() of one more", x.set(1, 40000 - 32768, 3, 7), FULL);
        CHECK.due("set() of one more, wrong", x.set(1, 40000 - 32768, 16, 7), BAD);
        CHECK.due("number() of it", x.number(1, 40000 - 32768), 32768 - 40000);
        CHECK.due("set() of one that is remembered", x.set(1, 0, 4, 8), 1);
        CHECK.due("define() of an old key", x.define(1, 1, 1, 1, 101), FULL);
        CHECK.due("define() of a gone key", x.define(1, 1, 2, 1, 101), FULL);
        CHECK.due("undefine() of an old key", x.undefine(1, 1, 1), FULL);
        CHECK.due("undefine() of a gone key", x.undefine(1, 1, 2), NO);
        CHECK.due("found() of the old key", x.found(1, 1, 1), 100);
        CHECK.due("define() of a new key", x.define(1, 1, 3, 1, 300), 1);
        CHECK.due("undefine() of the new key", x.undefine(1, 1, 3), 1);
        CHECK.due("restore(2)", x.restore(2), 1);
        CHECK.due("noted(0, 5)", x.noted(0, 5), 32768);
        CHECK.due("undefine() of an old key now", x.undefine(1, 1, 1), 1);
        CHECK.due("get(1, 32767)", x.get(1, 32767), 2);
        CHECK.due("number(1, 1)", x.number(1, 1), -1);
        CHECK.due("restore(1)", x.restore(1), 0);
        for (int i = 0; i < 32768; i += 1111) {
            CHECK.due("number(1, " + i + ")", x.number(1, i), i);
        }
        CHECK.due("found() of the old key at last", x.found(1, 1, 1), 100);
    }
}
