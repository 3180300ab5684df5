/**
 * What a store answers, as one text: all counts, the cursor, the last rows with the places at both
 * their ends, and the keys of small numbers in the first dictionaries; the tests change nothing else.
 * The store is used up by it, for what stands behind the saves is seen only by going back to them.
 */
final class Readings {
    private static final int MOST_READ_PLACES = 6;
    private static final int KEY_KINDS = 3;
    private static final int KEY_NUMBERS = 5;

    private final StringBuilder text = new StringBuilder();

    private Readings() {
    }

    static String of(PageStore x) {
        Readings r = new Readings();
        r.now(x);
        int saves = howManySaves(x);
        for (int k = saves; k >= 1; k--) {
            r.text.append("\nrestore ").append(x.restore(k)).append(':');
            r.now(x);
        }
        r.text.append("\nmade next:");
        r.add(x.values(1), x.bytes(1), x.dictionary(), x.save());
        return r.text.toString();
    }

    private static int howManySaves(PageStore x) {
        int k = 0;
        while (x.noted(k + 1, 0) != PageStore.BAD) {
            k++;
        }
        return k;
    }

    private void now(PageStore x) {
        // The cursor first: to read keys in their turn moves it.
        add(x.cursorKind(), x.cursorNumber());
        for (int k = 0; k <= howManySaves(x); k++) {
            for (int what = 0; what <= 5; what++) {
                add(x.noted(k, what));
            }
        }
        int rows = x.noted(0, 0);
        for (int row = Math.max(1, rows - 20); row <= rows; row++) {
            row(x, row);
        }
        for (int d = 1; d <= Math.min(3, x.noted(0, 3)); d++) {
            dictionary(x, d);
        }
    }

    private void row(PageStore x, int row) {
        int length = x.length(row);
        add(x.sort(row), length);
        for (int i = 0; i < Math.min(MOST_READ_PLACES, length); i++) {
            add(x.get(row, i), x.number(row, i));
            add(x.get(row, length - 1 - i), x.number(row, length - 1 - i));
        }
    }

    private void dictionary(PageStore x, int d) {
        add(x.count(d), x.next(d, 0, 0), x.cursorKind(), x.cursorNumber());
        for (int kind = 1; kind <= KEY_KINDS; kind++) {
            for (int key = 0; key < KEY_NUMBERS; key++) {
                add(x.find(d, kind, key), x.found(d, kind, key));
                add(x.next(d, kind, key), x.cursorKind(), x.cursorNumber());
            }
        }
    }

    private void add(int... answers) {
        for (int answer : answers) {
            text.append(' ').append(answer);
        }
    }
}
