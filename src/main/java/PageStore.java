import java.util.Arrays;

/**
 * The store of a page program: rows of values and rows of bytes, parts of them that share their
 * places, dictionaries; and saves, to which all can be put back, but for bytes.
 */
public final class PageStore {
    public static final int BAD = -1;
    public static final int NO = -2;
    public static final int FULL = -3;

    private static final int MOST_ROWS = 16384;
    private static final int MOST_PLACES = 32768;
    private static final int MOST_BYTES = 65536;
    private static final int MOST_DICTIONARIES = 1024;
    private static final int MOST_KEYS = 16384;
    private static final int MOST_SAVES = 15;
    private static final int MOST_REMEMBERED = 40000;

    private static final int OF_VALUES = 1;
    private static final int OF_BYTES = 2;

    private static final int NULL_KIND = 0;
    private static final int FIRST_KEY_KIND = 1;
    private static final int LAST_KIND = 15;

    /** Stands as the kind of a key's value while the key is gone; no value has it. */
    private static final int GONE = -1;

    private static final int NOWHERE = -1;

    // What is counted, in the order in which noted() numbers it.
    private static final int ROWS = 0;
    private static final int PLACES = 1;
    private static final int BYTES = 2;
    private static final int DICTIONARIES = 3;
    private static final int KEYS = 4;
    private static final int REMEMBERED = 5;
    private static final int COUNTS = 6;

    // All counts stand in one row, so that a save notes them, and a restore puts them back, alike.
    private final int[] counts = new int[COUNTS];
    private final Column notes = new Column(MOST_SAVES * COUNTS);
    private int saves;

    private final Rows rows = new Rows();
    private final Values places = new Values(MOST_PLACES);
    private final Column octets = new Column(MOST_BYTES);
    private final Keys keys = new Keys();
    private final Memories memories = new Memories();

    private int cursorKeyKind;
    private int cursorKeyNumber;

    public PageStore() {
    }

    public int values(int n) {
        if (n < 0 || n > MOST_PLACES) {
            return BAD;
        }
        int start = counts[PLACES];
        if (noRowLeft() || n > MOST_PLACES - start) {
            return FULL;
        }
        places.wipe(start, start + n);
        counts[PLACES] = start + n;
        return addRow(OF_VALUES, start, n);
    }

    public int bytes(int n) {
        if (n < 0 || n > MOST_BYTES) {
            return BAD;
        }
        int start = counts[BYTES];
        if (noRowLeft() || n > MOST_BYTES - start) {
            return FULL;
        }
        octets.wipe(start, start + n);
        counts[BYTES] = start + n;
        return addRow(OF_BYTES, start, n);
    }

    public int part(int row, int from, int n) {
        if (!isRow(row) || from < 0 || n < 0) {
            return BAD;
        }
        // Not from + n: that sum may wrap around.
        if (from > rows.lengths.at(row) - n) {
            return BAD;
        }
        if (noRowLeft()) {
            return FULL;
        }
        return addRow(rows.sorts.at(row), rows.starts.at(row) + from, n);
    }

    public int sort(int row) {
        return isRow(row) ? rows.sorts.at(row) : BAD;
    }

    public int length(int row) {
        return isRow(row) ? rows.lengths.at(row) : BAD;
    }

    public int set(int row, int place, int kind, int number) {
        int index = indexIn(OF_VALUES, row, place);
        if (index == NOWHERE || !isKind(kind, NULL_KIND)) {
            return BAD;
        }
        if (!remember(PLACES, index)) {
            return FULL;
        }
        places.write(index, kind, number);
        return 1;
    }

    public int get(int row, int place) {
        int index = indexIn(OF_VALUES, row, place);
        if (index != NOWHERE) {
            return places.kinds.at(index);
        }
        index = indexIn(OF_BYTES, row, place);
        return index == NOWHERE ? BAD : octets.at(index);
    }

    public int number(int row, int place) {
        int index = indexIn(OF_VALUES, row, place);
        return index == NOWHERE ? 0 : places.numbers.at(index);
    }

    public int setByte(int row, int place, int b) {
        int index = indexIn(OF_BYTES, row, place);
        if (index == NOWHERE) {
            return BAD;
        }
        octets.put(index, b & 255);
        return 1;
    }

    public int dictionary() {
        if (counts[DICTIONARIES] >= MOST_DICTIONARIES) {
            return FULL;
        }
        counts[DICTIONARIES]++;
        return counts[DICTIONARIES];
    }

    public int define(int d, int keyKind, int key, int kind, int number) {
        if (!isKeyPossible(d, keyKind) || !isKind(kind, NULL_KIND)) {
            return BAD;
        }
        int index = keys.indexOf(d, keyKind, key, counts[KEYS]);
        if (index == NOWHERE) {
            return addKey(d, keyKind, key, kind, number);
        }
        if (!remember(KEYS, index)) {
            return FULL;
        }
        keys.values.write(index, kind, number);
        return 0;
    }

    public int find(int d, int keyKind, int key) {
        if (!isKeyPossible(d, keyKind)) {
            return BAD;
        }
        int index = keys.indexIfThere(d, keyKind, key, counts[KEYS]);
        return index == NOWHERE ? NO : keys.values.kinds.at(index);
    }

    public int found(int d, int keyKind, int key) {
        int index = keys.indexIfThere(d, keyKind, key, counts[KEYS]);
        return index == NOWHERE ? 0 : keys.values.numbers.at(index);
    }

    public int undefine(int d, int keyKind, int key) {
        if (!isKeyPossible(d, keyKind)) {
            return BAD;
        }
        int index = keys.indexIfThere(d, keyKind, key, counts[KEYS]);
        if (index == NOWHERE) {
            return NO;
        }
        if (!remember(KEYS, index)) {
            return FULL;
        }
        keys.values.write(index, GONE, 0);
        return 1;
    }

    public int count(int d) {
        return isDictionary(d) ? keys.howManyThere(d, counts[KEYS]) : BAD;
    }

    public int next(int d, int keyKind, int key) {
        if (!isDictionary(d) || !isKind(keyKind, NULL_KIND)) {
            return BAD;
        }
        int from = 0;
        if (keyKind != NULL_KIND) {
            int index = keys.indexOf(d, keyKind, key, counts[KEYS]);
            if (index == NOWHERE) {
                return NO;
            }
            from = index + 1;
        }
        return moveCursor(keys.firstThere(d, from, counts[KEYS]));
    }

    public int cursorKind() {
        return cursorKeyKind;
    }

    public int cursorNumber() {
        return cursorKeyNumber;
    }

    public int save() {
        if (saves >= MOST_SAVES) {
            return FULL;
        }
        for (int what = 0; what < COUNTS; what++) {
            notes.put(saves * COUNTS + what, counts[what]);
        }
        saves++;
        return saves;
    }

    public int restore(int k) {
        if (!isSave(k)) {
            return BAD;
        }
        putBack(countAtSave(k, REMEMBERED));
        for (int what = 0; what < COUNTS; what++) {
            counts[what] = countAtSave(k, what);
        }
        saves = k - 1;
        return saves;
    }

    public int noted(int k, int what) {
        if (what < 0 || what >= COUNTS) {
            return BAD;
        }
        if (k == 0) {
            return counts[what];
        }
        return isSave(k) && what != REMEMBERED ? countAtSave(k, what) : BAD;
    }

    private static boolean isKind(int kind, int first) {
        return kind >= first && kind <= LAST_KIND;
    }

    private boolean isRow(int row) {
        return row >= 1 && row <= counts[ROWS];
    }

    private boolean isDictionary(int d) {
        return d >= 1 && d <= counts[DICTIONARIES];
    }

    private boolean isKeyPossible(int d, int keyKind) {
        return isDictionary(d) && isKind(keyKind, FIRST_KEY_KIND);
    }

    private boolean isSave(int k) {
        return k >= 1 && k <= saves;
    }

    private boolean noRowLeft() {
        return counts[ROWS] >= MOST_ROWS;
    }

    private int addRow(int sort, int start, int length) {
        counts[ROWS]++;
        rows.write(counts[ROWS], sort, start, length);
        return counts[ROWS];
    }

    private int indexIn(int sort, int row, int place) {
        if (!isRow(row) || rows.sorts.at(row) != sort) {
            return NOWHERE;
        }
        if (place < 0 || place >= rows.lengths.at(row)) {
            return NOWHERE;
        }
        return rows.starts.at(row) + place;
    }

    private int addKey(int d, int keyKind, int key, int kind, int number) {
        int index = counts[KEYS];
        if (index >= MOST_KEYS) {
            return FULL;
        }
        keys.write(index, d, keyKind, key);
        keys.values.write(index, kind, number);
        counts[KEYS] = index + 1;
        return 1;
    }

    private int moveCursor(int index) {
        if (index == NOWHERE) {
            cursorKeyKind = NULL_KIND;
            cursorKeyNumber = 0;
            return 0;
        }
        cursorKeyKind = keys.kinds.at(index);
        cursorKeyNumber = keys.numbers.at(index);
        return 1;
    }

    private int countAtSave(int k, int what) {
        return notes.at((k - 1) * COUNTS + what);
    }

    /** False when what is to be changed would have to be remembered, and can't be. */
    private boolean remember(int whose, int index) {
        if (!mustRemember(whose, index)) {
            return true;
        }
        int m = counts[REMEMBERED];
        if (m >= MOST_REMEMBERED) {
            return false;
        }
        memories.write(m, whose, index, valuesOf(whose));
        counts[REMEMBERED]++;
        return true;
    }

    private boolean mustRemember(int whose, int index) {
        // What came since the latest save needs no memory: a restore takes it away.
        if (saves == 0 || index >= countAtSave(saves, whose)) {
            return false;
        }
        int first = countAtSave(saves, REMEMBERED);
        return !memories.hold(whose, index, first, counts[REMEMBERED]);
    }

    private void putBack(int first) {
        // Backwards: of what was remembered for several saves, the oldest value is to stay.
        for (int m = counts[REMEMBERED] - 1; m >= first; m--) {
            Values changed = valuesOf(memories.whose.at(m));
            changed.write(memories.indexes.at(m), memories.old.kinds.at(m), memories.old.numbers.at(m));
        }
    }

    private Values valuesOf(int whose) {
        return whose == KEYS ? keys.values : places;
    }

    /**
     * Numbers in a row, 0 where none was put. It takes room only as far as it is written: most
     * objects use little of what the limits allow.
     */
    private static final class Column {
        private static final int FIRST_ROOM = 16;

        private final int limit;
        private int[] cells = new int[FIRST_ROOM];

        Column(int limit) {
            this.limit = limit;
        }

        int at(int index) {
            return index >= 0 && index < cells.length ? cells[index] : 0;
        }

        void put(int index, int number) {
            if (index < 0 || index >= limit) {
                return;
            }
            if (index >= cells.length) {
                int room = Math.max(index + 1, 2 * cells.length);
                // Behind the half comes the whole: all that growing ever takes stays under twice the limit.
                cells = Arrays.copyOf(cells, room > limit / 2 ? limit : room);
            }
            cells[index] = number;
        }

        void wipe(int from, int to) {
            int end = Math.min(to, cells.length);
            if (from >= 0 && from < end) {
                Arrays.fill(cells, from, end, 0);
            }
        }
    }

    private static final class Values {
        final Column kinds;
        final Column numbers;

        Values(int limit) {
            kinds = new Column(limit);
            numbers = new Column(limit);
        }

        void write(int index, int kind, int number) {
            kinds.put(index, kind);
            numbers.put(index, kind == NULL_KIND ? 0 : number);
        }

        void wipe(int from, int to) {
            kinds.wipe(from, to);
            numbers.wipe(from, to);
        }
    }

    private static final class Rows {
        // Rows are numbered from 1; cell 0 stays unused.
        final Column sorts = new Column(MOST_ROWS + 1);
        final Column starts = new Column(MOST_ROWS + 1);
        final Column lengths = new Column(MOST_ROWS + 1);

        Rows() {
        }

        void write(int row, int sort, int start, int length) {
            sorts.put(row, sort);
            starts.put(row, start);
            lengths.put(row, length);
        }
    }

    /** The keys of all dictionaries in the order in which they came, so that a restore cuts off the end. */
    private static final class Keys {
        final Column dictionaries = new Column(MOST_KEYS);
        final Column kinds = new Column(MOST_KEYS);
        final Column numbers = new Column(MOST_KEYS);
        final Values values = new Values(MOST_KEYS);

        Keys() {
        }

        void write(int index, int d, int kind, int number) {
            dictionaries.put(index, d);
            kinds.put(index, kind);
            numbers.put(index, number);
        }

        int indexOf(int d, int kind, int number, int end) {
            for (int i = 0; i < end; i++) {
                if (numbers.at(i) == number && kinds.at(i) == kind && dictionaries.at(i) == d) {
                    return i;
                }
            }
            return NOWHERE;
        }

        int indexIfThere(int d, int kind, int number, int end) {
            int index = indexOf(d, kind, number, end);
            return index != NOWHERE && isThere(index, d) ? index : NOWHERE;
        }

        int firstThere(int d, int from, int end) {
            for (int i = from; i < end; i++) {
                if (isThere(i, d)) {
                    return i;
                }
            }
            return NOWHERE;
        }

        int howManyThere(int d, int end) {
            int there = 0;
            for (int i = 0; i < end; i++) {
                if (isThere(i, d)) {
                    there++;
                }
            }
            return there;
        }

        private boolean isThere(int index, int d) {
            return dictionaries.at(index) == d && values.kinds.at(index) != GONE;
        }
    }

    /** What places and keys were before they changed, those of later saves behind those of earlier ones. */
    private static final class Memories {
        final Column whose = new Column(MOST_REMEMBERED);
        final Column indexes = new Column(MOST_REMEMBERED);
        final Values old = new Values(MOST_REMEMBERED);

        Memories() {
        }

        void write(int m, int owner, int index, Values now) {
            whose.put(m, owner);
            indexes.put(m, index);
            old.write(m, now.kinds.at(index), now.numbers.at(index));
        }

        boolean hold(int owner, int index, int first, int end) {
            for (int m = first; m < end; m++) {
                if (indexes.at(m) == index && whose.at(m) == owner) {
                    return true;
                }
            }
            return false;
        }
    }
}
