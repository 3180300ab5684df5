import java.util.ArrayList;
import java.util.HashSet;
import java.util.LinkedHashMap;
import java.util.List;
import java.util.Map;
import java.util.Set;

/**
 * The document told a second way, to be compared with: a save is a copy of all there is, and a
 * restore takes the copy, so that nothing here rests on what was remembered being right.
 */
final class PageModel {
    private record Value(int kind, int number) {
        static Value of(int kind, int number) {
            return new Value(kind, kind == 0 ? 0 : number);
        }
    }

    private record Key(int kind, int number) {
    }

    private record Row(int sort, int start, int length) {
    }

    /** All that a save puts back; a key that is gone has null. */
    private static final class State {
        final List<Row> rows = new ArrayList<>();
        final List<Value> places = new ArrayList<>();
        int bytes;
        final List<Map<Key, Value>> dictionaries = new ArrayList<>();

        State copy() {
            State c = new State();
            c.rows.addAll(rows);
            c.places.addAll(places);
            c.bytes = bytes;
            for (Map<Key, Value> d : dictionaries) {
                c.dictionaries.add(new LinkedHashMap<>(d));
            }
            return c;
        }

        int keys() {
            int n = 0;
            for (Map<Key, Value> d : dictionaries) {
                n += d.size();
            }
            return n;
        }

        int counted(int what) {
            return switch (what) {
                case 0 -> rows.size();
                case 1 -> places.size();
                case 2 -> bytes;
                case 3 -> dictionaries.size();
                case 4 -> keys();
                default -> PageStore.BAD;
            };
        }
    }

    private static final class Save {
        final State state;
        final Set<Object> remembered = new HashSet<>();

        Save(State state) {
            this.state = state;
        }
    }

    private record KeyOf(int d, Key key) {
    }

    private State now = new State();
    private final int[] octets = new int[65536];
    private final List<Save> saves = new ArrayList<>();
    private Key cursor = new Key(0, 0);

    int values(int n) {
        if (n < 0 || n > 32768) {
            return PageStore.BAD;
        }
        if (now.places.size() + n > 32768) {
            return PageStore.FULL;
        }
        now.rows.add(new Row(1, now.places.size(), n));
        for (int i = 0; i < n; i++) {
            now.places.add(new Value(0, 0));
        }
        return now.rows.size();
    }

    int bytes(int n) {
        if (n < 0 || n > 65536) {
            return PageStore.BAD;
        }
        if (now.bytes + n > 65536) {
            return PageStore.FULL;
        }
        now.rows.add(new Row(2, now.bytes, n));
        for (int i = 0; i < n; i++) {
            octets[now.bytes + i] = 0;
        }
        now.bytes += n;
        return now.rows.size();
    }

    private Row rowAt(int row) {
        return row >= 1 && row <= now.rows.size() ? now.rows.get(row - 1) : null;
    }

    int part(int row, int from, int n) {
        Row r = rowAt(row);
        if (r == null || from < 0 || n < 0 || (long) from + n > r.length()) {
            return PageStore.BAD;
        }
        now.rows.add(new Row(r.sort(), r.start() + from, n));
        return now.rows.size();
    }

    int sort(int row) {
        return rowAt(row) == null ? PageStore.BAD : rowAt(row).sort();
    }

    int length(int row) {
        return rowAt(row) == null ? PageStore.BAD : rowAt(row).length();
    }

    private boolean hasPlace(int row, int place) {
        return rowAt(row) != null && place >= 0 && place < rowAt(row).length();
    }

    int set(int row, int place, int kind, int number) {
        if (!hasPlace(row, place) || rowAt(row).sort() != 1 || kind < 0 || kind > 15) {
            return PageStore.BAD;
        }
        int at = rowAt(row).start() + place;
        if (!saves.isEmpty() && at < latest().state.places.size()) {
            latest().remembered.add(at);
        }
        now.places.set(at, Value.of(kind, number));
        return 1;
    }

    private Save latest() {
        return saves.get(saves.size() - 1);
    }

    int get(int row, int place) {
        if (!hasPlace(row, place)) {
            return PageStore.BAD;
        }
        int at = rowAt(row).start() + place;
        return rowAt(row).sort() == 2 ? octets[at] : now.places.get(at).kind();
    }

    int number(int row, int place) {
        boolean value = hasPlace(row, place) && rowAt(row).sort() == 1;
        return value ? now.places.get(rowAt(row).start() + place).number() : 0;
    }

    int setByte(int row, int place, int b) {
        if (!hasPlace(row, place) || rowAt(row).sort() != 2) {
            return PageStore.BAD;
        }
        octets[rowAt(row).start() + place] = Math.floorMod(b, 256);
        return 1;
    }

    int dictionary() {
        now.dictionaries.add(new LinkedHashMap<>());
        return now.dictionaries.size();
    }

    private Map<Key, Value> dictionaryAt(int d) {
        return d >= 1 && d <= now.dictionaries.size() ? now.dictionaries.get(d - 1) : null;
    }

    private void rememberKey(int d, Key key) {
        if (saves.isEmpty() || d > latest().state.dictionaries.size()) {
            return;
        }
        if (latest().state.dictionaries.get(d - 1).containsKey(key)) {
            latest().remembered.add(new KeyOf(d, key));
        }
    }

    int define(int d, int keyKind, int key, int kind, int number) {
        Map<Key, Value> in = dictionaryAt(d);
        if (in == null || keyKind < 1 || keyKind > 15 || kind < 0 || kind > 15) {
            return PageStore.BAD;
        }
        Key k = new Key(keyKind, key);
        int comes = in.containsKey(k) ? 0 : 1;
        rememberKey(d, k);
        in.put(k, Value.of(kind, number));
        return comes;
    }

    int find(int d, int keyKind, int key) {
        Map<Key, Value> in = dictionaryAt(d);
        if (in == null || keyKind < 1 || keyKind > 15) {
            return PageStore.BAD;
        }
        Value v = in.get(new Key(keyKind, key));
        return v == null ? PageStore.NO : v.kind();
    }

    int found(int d, int keyKind, int key) {
        return find(d, keyKind, key) < 0 ? 0 : dictionaryAt(d).get(new Key(keyKind, key)).number();
    }

    int undefine(int d, int keyKind, int key) {
        int there = find(d, keyKind, key);
        if (there < 0) {
            return there;
        }
        Key k = new Key(keyKind, key);
        rememberKey(d, k);
        dictionaryAt(d).put(k, null);
        return 1;
    }

    int count(int d) {
        if (dictionaryAt(d) == null) {
            return PageStore.BAD;
        }
        int n = 0;
        for (Value v : dictionaryAt(d).values()) {
            n += v == null ? 0 : 1;
        }
        return n;
    }

    int next(int d, int keyKind, int key) {
        Map<Key, Value> in = dictionaryAt(d);
        if (in == null || keyKind < 0 || keyKind > 15) {
            return PageStore.BAD;
        }
        Key behind = new Key(keyKind, key);
        if (keyKind != 0 && !in.containsKey(behind)) {
            return PageStore.NO;
        }
        boolean passed = keyKind == 0;
        for (Map.Entry<Key, Value> e : in.entrySet()) {
            if (passed && e.getValue() != null) {
                cursor = e.getKey();
                return 1;
            }
            passed = passed || e.getKey().equals(behind);
        }
        cursor = new Key(0, 0);
        return 0;
    }

    int cursorKind() {
        return cursor.kind();
    }

    int cursorNumber() {
        return cursor.number();
    }

    int save() {
        if (saves.size() == 15) {
            return PageStore.FULL;
        }
        saves.add(new Save(now.copy()));
        return saves.size();
    }

    int howManySaves() {
        return saves.size();
    }

    int restore(int k) {
        if (k < 1 || k > saves.size()) {
            return PageStore.BAD;
        }
        now = saves.get(k - 1).state;
        saves.subList(k - 1, saves.size()).clear();
        return saves.size();
    }

    int noted(int k, int what) {
        if (k < 0 || k > saves.size()) {
            return PageStore.BAD;
        }
        if (k == 0 && what == 5) {
            int n = 0;
            for (Save s : saves) {
                n += s.remembered.size();
            }
            return n;
        }
        return (k == 0 ? now : saves.get(k - 1).state).counted(what);
    }
}
