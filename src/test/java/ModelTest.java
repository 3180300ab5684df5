import java.util.Random;

/** Runs of 512 calls, made by a fixed seed, on the program and on the model: the same answers are due. */
public final class ModelTest {
    private static final int RUNS = 2000;
    private static final int CALLS = 512;
    private static final int[] EDGES = {
        Integer.MIN_VALUE, -257, -1, 0, 1, 15, 16, 255, 256, 300, 32767, 32768, 32769, 65535, 65536, 65537,
        Integer.MAX_VALUE
    };
    private static final Check CHECK = new Check("ModelTest");

    private final Random chance;
    private final int spread;
    private final PageStore x = new PageStore();
    private final PageModel m = new PageModel();

    private ModelTest(int run) {
        chance = new Random(run);
        spread = 2 + run % 7;
    }

    public static void main(String[] args) {
        for (int run = 0; run < RUNS; run++) {
            ModelTest t = new ModelTest(run);
            for (int call = 0; call < CALLS; call++) {
                t.step("run " + run + ", call " + call + ": ");
            }
        }
        CHECK.end();
    }

    /** Mostly a small number that names something; now and then any other. */
    private int some(int from, int most) {
        if (chance.nextInt(25) == 0) {
            return EDGES[chance.nextInt(EDGES.length)];
        }
        return from + chance.nextInt(most);
    }

    private int row() {
        return some(1, Math.max(1, m.noted(0, 0)));
    }

    private int anyNumber() {
        return chance.nextInt(4) == 0 ? EDGES[chance.nextInt(EDGES.length)] : chance.nextInt();
    }

    private void step(String when) {
        switch (chance.nextInt(8)) {
            case 0 -> makeRow(when);
            case 1, 2 -> changeRow(when);
            case 3 -> readRow(when);
            case 4, 5 -> changeDictionary(when);
            case 6 -> readDictionary(when);
            default -> saveOrRestore(when);
        }
    }

    private void makeRow(String when) {
        int a = row();
        int b = some(0, spread);
        int c = some(0, spread);
        switch (chance.nextInt(4)) {
            case 0 -> CHECK.due(when + "values " + b, x.values(b), m.values(b));
            case 1 -> CHECK.due(when + "bytes " + b, x.bytes(b), m.bytes(b));
            default -> CHECK.due(when + "part " + a + " " + b + " " + c, x.part(a, b, c), m.part(a, b, c));
        }
    }

    private void changeRow(String when) {
        int a = row();
        int b = some(0, spread);
        int kind = some(0, 16);
        int n = anyNumber();
        if (chance.nextInt(4) == 0) {
            CHECK.due(when + "setByte " + a + " " + b, x.setByte(a, b, n), m.setByte(a, b, n));
        } else {
            CHECK.due(when + "set " + a + " " + b + " " + kind, x.set(a, b, kind, n), m.set(a, b, kind, n));
        }
    }

    private void readRow(String when) {
        int a = row();
        int b = some(0, spread);
        switch (chance.nextInt(4)) {
            case 0 -> CHECK.due(when + "sort " + a, x.sort(a), m.sort(a));
            case 1 -> CHECK.due(when + "length " + a, x.length(a), m.length(a));
            case 2 -> CHECK.due(when + "get " + a + " " + b, x.get(a, b), m.get(a, b));
            default -> CHECK.due(when + "number " + a + " " + b, x.number(a, b), m.number(a, b));
        }
    }

    private void changeDictionary(String when) {
        int d = some(1, 3);
        int keyKind = some(1, 3);
        int key = some(0, spread);
        int kind = some(0, 16);
        int n = anyNumber();
        String key_ = d + " " + keyKind + " " + key;
        switch (chance.nextInt(8)) {
            case 0 -> CHECK.due(when + "dictionary", x.dictionary(), m.dictionary());
            case 1, 2, 3 -> CHECK.due(when + "undefine " + key_,
                x.undefine(d, keyKind, key), m.undefine(d, keyKind, key));
            default -> CHECK.due(when + "define " + key_ + " " + kind,
                x.define(d, keyKind, key, kind, n), m.define(d, keyKind, key, kind, n));
        }
    }

    private void readDictionary(String when) {
        int d = some(1, 3);
        int keyKind = some(0, 4);
        int key = some(0, spread);
        String key_ = d + " " + keyKind + " " + key;
        switch (chance.nextInt(4)) {
            case 0 -> CHECK.due(when + "find " + key_, x.find(d, keyKind, key), m.find(d, keyKind, key));
            case 1 -> CHECK.due(when + "found " + key_, x.found(d, keyKind, key), m.found(d, keyKind, key));
            case 2 -> CHECK.due(when + "count " + d, x.count(d), m.count(d));
            default -> CHECK.due(when + "next " + key_, x.next(d, keyKind, key), m.next(d, keyKind, key));
        }
        CHECK.due(when + "cursorKind", x.cursorKind(), m.cursorKind());
        CHECK.due(when + "cursorNumber", x.cursorNumber(), m.cursorNumber());
    }

    private void saveOrRestore(String when) {
        int k = some(1, m.howManySaves() + 1);
        int what = some(0, 6);
        switch (chance.nextInt(7)) {
            case 0 -> CHECK.due(when + "restore " + k, x.restore(k), m.restore(k));
            case 1, 2 -> CHECK.due(when + "save", x.save(), m.save());
            case 3 -> CHECK.due(when + "noted " + k + " " + what, x.noted(k, what), m.noted(k, what));
            default -> CHECK.due(when + "noted 0 " + what, x.noted(0, what), m.noted(0, what));
        }
    }
}
