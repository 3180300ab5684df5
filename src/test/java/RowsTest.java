/** Promises 1 to 10: a new object, rows of values and of bytes, parts, and what stands in them. */
public final class RowsTest {
    private static final int BAD = PageStore.BAD;
    private static final int FULL = PageStore.FULL;
    private static final int LEAST = Integer.MIN_VALUE;
    private static final int MOST = Integer.MAX_VALUE;
    private static final Check CHECK = new Check("RowsTest");

    public static void main(String[] args) {
        newObject();
        values();
        bytes();
        part();
        sortAndLength();
        set();
        get();
        number();
        setByte();
        CHECK.end();
    }

    private static void newObject() {
        PageStore x = new PageStore();
        CHECK.counts("new", x, 0, 0, 0, 0, 0, 0);
        CHECK.due("sort(1)", x.sort(1), BAD);
        CHECK.due("length(1)", x.length(1), BAD);
        CHECK.due("get(1, 0)", x.get(1, 0), BAD);
        CHECK.due("number(1, 0)", x.number(1, 0), 0);
        CHECK.due("set(1, 0, 1, 1)", x.set(1, 0, 1, 1), BAD);
        CHECK.due("setByte(1, 0, 1)", x.setByte(1, 0, 1), BAD);
        CHECK.due("part(1, 0, 0)", x.part(1, 0, 0), BAD);
        CHECK.due("count(1)", x.count(1), BAD);
        CHECK.due("find(1, 1, 1)", x.find(1, 1, 1), BAD);
        CHECK.due("found(1, 1, 1)", x.found(1, 1, 1), 0);
        CHECK.due("define(1, 1, 1, 1, 1)", x.define(1, 1, 1, 1, 1), BAD);
        CHECK.due("undefine(1, 1, 1)", x.undefine(1, 1, 1), BAD);
        CHECK.due("next(1, 0, 0)", x.next(1, 0, 0), BAD);
        CHECK.due("cursorKind()", x.cursorKind(), 0);
        CHECK.due("cursorNumber()", x.cursorNumber(), 0);
        CHECK.due("restore(1)", x.restore(1), BAD);
        CHECK.due("noted(1, 0)", x.noted(1, 0), BAD);
        PageStore y = new PageStore();
        x.values(1);
        CHECK.due("another object's noted(0, 0)", y.noted(0, 0), 0);
    }

    private static void values() {
        PageStore x = new PageStore();
        CHECK.due("values(-1)", x.values(-1), BAD);
        CHECK.due("values(least)", x.values(LEAST), BAD);
        CHECK.due("values(32769)", x.values(32769), BAD);
        CHECK.due("values(most)", x.values(MOST), BAD);
        CHECK.counts("after BAD", x, 0, 0, 0, 0, 0, 0);
        CHECK.due("values(0)", x.values(0), 1);
        CHECK.due("values(32768)", x.values(32768), 2);
        CHECK.due("get(2, 32767)", x.get(2, 32767), 0);
        CHECK.due("number(2, 32767)", x.number(2, 32767), 0);
        CHECK.due("values(1)", x.values(1), FULL);
        CHECK.due("values(32769) when full", x.values(32769), BAD);
        CHECK.due("values(0) when full", x.values(0), 3);
        CHECK.counts("after FULL", x, 3, 32768, 0, 0, 0, 0);

        PageStore y = new PageStore();
        y.values(2);
        y.values(3);
        y.set(1, 1, 4, 40);
        CHECK.due("get(2, 0), a place of its own", y.get(2, 0), 0);
        y.set(2, 0, 5, 50);
        CHECK.due("number(1, 1)", y.number(1, 1), 40);
        CHECK.due("number(2, 0)", y.number(2, 0), 50);

        PageStore z = new PageStore();
        z.save();
        z.values(40);
        for (int i = 0; i < 40; i++) {
            z.set(1, i, 3, 7);
        }
        z.restore(1);
        z.values(20);
        z.values(20);
        for (int i = 0; i < 20; i++) {
            CHECK.due("a new row's get(1, " + i + ")", z.get(1, i), 0);
            CHECK.due("a new row's number(2, " + i + ")", z.number(2, i), 0);
        }
    }

    private static void bytes() {
        PageStore x = new PageStore();
        CHECK.due("bytes(-1)", x.bytes(-1), BAD);
        CHECK.due("bytes(least)", x.bytes(LEAST), BAD);
        CHECK.due("bytes(65537)", x.bytes(65537), BAD);
        CHECK.due("bytes(most)", x.bytes(MOST), BAD);
        CHECK.counts("after BAD", x, 0, 0, 0, 0, 0, 0);
        CHECK.due("bytes(0)", x.bytes(0), 1);
        CHECK.due("bytes(65536)", x.bytes(65536), 2);
        CHECK.due("get(2, 65535)", x.get(2, 65535), 0);
        CHECK.due("setByte(2, 65535, 9)", x.setByte(2, 65535, 9), 1);
        CHECK.due("get(2, 65535)", x.get(2, 65535), 9);
        CHECK.due("bytes(1)", x.bytes(1), FULL);
        CHECK.due("bytes(65537) when full", x.bytes(65537), BAD);
        CHECK.due("bytes(0) when full", x.bytes(0), 3);
        CHECK.due("values(32768) beside them", x.values(32768), 4);
        CHECK.counts("after FULL", x, 4, 32768, 65536, 0, 0, 0);

        PageStore z = new PageStore();
        z.bytes(1);
        z.save();
        z.bytes(30);
        for (int i = 0; i < 30; i++) {
            z.setByte(2, i, 200);
        }
        z.setByte(1, 0, 100);
        z.restore(1);
        z.bytes(30);
        for (int i = 0; i < 30; i++) {
            CHECK.due("a new row's get(2, " + i + ")", z.get(2, i), 0);
        }
        CHECK.due("get(1, 0)", z.get(1, 0), 100);
    }

    private static void part() {
        PageStore x = new PageStore();
        x.values(5);
        x.bytes(4);
        CHECK.due("part(1, 1, 3)", x.part(1, 1, 3), 3);
        CHECK.due("part(3, 1, 2), a part of a part", x.part(3, 1, 2), 4);
        CHECK.due("part(2, 2, 2)", x.part(2, 2, 2), 5);
        CHECK.due("part(1, 0, 5)", x.part(1, 0, 5), 6);
        CHECK.due("part(1, 5, 0)", x.part(1, 5, 0), 7);
        CHECK.counts("parts take no places", x, 7, 5, 4, 0, 0, 0);
        x.set(4, 0, 9, 99);
        CHECK.due("get(1, 2)", x.get(1, 2), 9);
        CHECK.due("number(3, 1)", x.number(3, 1), 99);
        CHECK.due("number(6, 2)", x.number(6, 2), 99);
        x.setByte(2, 3, 77);
        CHECK.due("get(5, 1)", x.get(5, 1), 77);
        int[][] wrong = {
            {0, 0, 0}, {-1, 0, 0}, {8, 0, 0}, {MOST, 0, 0}, {LEAST, 0, 0},
            {1, -1, 1}, {1, 0, -1}, {1, 0, 6}, {1, 5, 1}, {1, 6, 0}, {1, 6, -1}, {1, -1, 6},
            {1, MOST, 1}, {1, 1, MOST}, {1, MOST, MOST}, {1, LEAST, LEAST}, {1, 0, LEAST},
            {3, 1, 3}, {3, 0, 5}, {7, 0, 1}
        };
        for (int[] w : wrong) {
            CHECK.due("part(" + w[0] + ", " + w[1] + ", " + w[2] + ")", x.part(w[0], w[1], w[2]), BAD);
        }
        CHECK.due("noted(0, 0) after BAD", x.noted(0, 0), 7);
    }

    private static void sortAndLength() {
        PageStore x = new PageStore();
        x.values(3);
        x.bytes(6);
        x.part(1, 1, 2);
        x.part(2, 0, 4);
        x.values(0);
        int[] sorts = {1, 2, 1, 2, 1};
        int[] lengths = {3, 6, 2, 4, 0};
        for (int row = 1; row <= 5; row++) {
            CHECK.due("sort(" + row + ")", x.sort(row), sorts[row - 1]);
            CHECK.due("length(" + row + ")", x.length(row), lengths[row - 1]);
        }
        for (int row : new int[] {0, -1, 6, MOST, LEAST}) {
            CHECK.due("sort(" + row + ")", x.sort(row), BAD);
            CHECK.due("length(" + row + ")", x.length(row), BAD);
        }
    }

    private static void set() {
        PageStore x = new PageStore();
        x.values(2);
        x.bytes(2);
        for (int kind = 0; kind <= 15; kind++) {
            CHECK.due("set(1, 1, " + kind + ", 5)", x.set(1, 1, kind, 5), 1);
            CHECK.due("get(1, 1)", x.get(1, 1), kind);
            CHECK.due("number(1, 1)", x.number(1, 1), kind == 0 ? 0 : 5);
        }
        int[][] wrong = {
            {0, 0, 1}, {3, 0, 1}, {-1, 0, 1}, {MOST, 0, 1}, {LEAST, 0, 1},
            {1, -1, 1}, {1, 2, 1}, {1, MOST, 1}, {1, LEAST, 1},
            {1, 0, -1}, {1, 0, 16}, {1, 0, MOST}, {1, 0, LEAST}, {2, 0, 1}
        };
        for (int[] w : wrong) {
            CHECK.due("set(" + w[0] + ", " + w[1] + ", " + w[2] + ", 8)", x.set(w[0], w[1], w[2], 8), BAD);
        }
        CHECK.due("get(1, 0) after BAD", x.get(1, 0), 0);
        CHECK.due("number(1, 1) after BAD", x.number(1, 1), 5);
        CHECK.due("get(2, 0) after BAD", x.get(2, 0), 0);
        for (int number : new int[] {MOST, LEAST, -1, 0}) {
            x.set(1, 0, 1, number);
            CHECK.due("number(1, 0)", x.number(1, 0), number);
        }
        CHECK.due("noted(0, 5): no save, nothing remembered", x.noted(0, 5), 0);
    }

    private static void get() {
        PageStore x = new PageStore();
        x.values(2);
        x.bytes(2);
        x.part(1, 1, 0);
        x.set(1, 1, 15, 3);
        x.setByte(2, 1, 255);
        CHECK.due("get(1, 0)", x.get(1, 0), 0);
        CHECK.due("get(1, 1)", x.get(1, 1), 15);
        CHECK.due("get(2, 0)", x.get(2, 0), 0);
        CHECK.due("get(2, 1)", x.get(2, 1), 255);
        int[][] wrong = {
            {0, 0}, {4, 0}, {-1, 0}, {MOST, 0}, {LEAST, 0}, {1, -1}, {1, 2}, {1, MOST}, {1, LEAST},
            {2, -1}, {2, 2}, {2, LEAST}, {3, 0}, {3, -1}
        };
        for (int[] w : wrong) {
            CHECK.due("get(" + w[0] + ", " + w[1] + ")", x.get(w[0], w[1]), BAD);
        }
    }

    private static void number() {
        PageStore x = new PageStore();
        x.values(2);
        x.bytes(2);
        x.set(1, 0, 3, 30);
        x.set(1, 1, 3, 31);
        x.setByte(2, 0, 9);
        CHECK.due("number(1, 0)", x.number(1, 0), 30);
        CHECK.due("number(1, 1)", x.number(1, 1), 31);
        int[][] none = {
            {2, 0}, {2, 5}, {0, 0}, {3, 0}, {-1, 0}, {1, 2}, {1, -1}, {MOST, MOST}, {LEAST, LEAST}
        };
        for (int[] n : none) {
            CHECK.due("number(" + n[0] + ", " + n[1] + ")", x.number(n[0], n[1]), 0);
        }
    }

    private static void setByte() {
        PageStore x = new PageStore();
        x.values(1);
        x.bytes(3);
        x.part(2, 1, 1);
        int[][] turned = {
            {0, 0}, {1, 1}, {127, 127}, {128, 128}, {255, 255}, {256, 0}, {300, 44}, {-1, 255}, {-256, 0},
            {-257, 255}, {MOST, 255}, {LEAST, 0}
        };
        for (int[] t : turned) {
            CHECK.due("setByte(3, 0, " + t[0] + ")", x.setByte(3, 0, t[0]), 1);
            CHECK.due("get(2, 1)", x.get(2, 1), t[1]);
        }
        x.setByte(3, 0, 6);
        int[][] wrong = {
            {1, 0}, {0, 0}, {4, 0}, {-1, 0}, {MOST, 0}, {LEAST, 0}, {2, 3}, {2, -1}, {3, 1}, {2, MOST}, {2, LEAST}
        };
        for (int[] w : wrong) {
            CHECK.due("setByte(" + w[0] + ", " + w[1] + ", 5)", x.setByte(w[0], w[1], 5), BAD);
        }
        CHECK.due("get(2, 0) after BAD", x.get(2, 0), 0);
        CHECK.due("get(2, 1) after BAD", x.get(2, 1), 6);
        CHECK.due("get(2, 2) after BAD", x.get(2, 2), 0);
        CHECK.due("get(1, 0) after BAD", x.get(1, 0), 0);
    }
}
