import java.util.ArrayList;
import java.util.HashMap;
import java.util.List;
import java.util.Map;

/**
 * The document once more, in another way: a record keeps what was added to it, and its layout is
 * worked out anew, bit by bit, whenever it is asked for.
 */
final class SlowDesk implements Face {
    private static final int LIMIT = 524288;

    private record Entry(boolean isBreak, int type, int width, boolean named) {
        boolean isBits() {
            return width > 0;
        }

        boolean isMember() {
            return !isBreak && named;
        }
    }

    private record Spot(int place, int type, int lowest, int width) {
    }

    private record Layout(List<Spot> spots, long reach, int align) {
    }

    private static final class Kind {
        long size;
        int align;
        List<Entry> entries;
        boolean union;
        boolean open;
    }

    private final List<Kind> kinds = new ArrayList<>();
    private final Map<String, Integer> made = new HashMap<>();

    SlowDesk() {
        for (int size : new int[] {0, 1, 1, 2, 2, 4, 4, 8, 8, 4, 8}) {
            addSized(size, size == 8 ? 4 : size);
        }
    }

    @Override
    public int pointer(int t) {
        if (!has(t)) {
            return -1;
        }
        String key = "*" + t;
        if (made.containsKey(key)) {
            return made.get(key);
        }
        if (kinds.size() == 300) {
            return -2;
        }
        made.put(key, addSized(4, 4));
        return made.get(key);
    }

    @Override
    public int array(int t, int n) {
        if (!has(t) || n < 1 || n > LIMIT) {
            return -1;
        }
        Kind element = kinds.get(t);
        if (!hasSize(t)) {
            return -2;
        }
        if (element.size * n > LIMIT) {
            return -3;
        }
        String key = t + "[" + n;
        if (made.containsKey(key)) {
            return made.get(key);
        }
        if (kinds.size() == 300) {
            return -4;
        }
        made.put(key, addSized(element.size * n, align(t)));
        return made.get(key);
    }

    @Override
    public int record(int kind) {
        if (kind < 0 || kind > 1) {
            return -1;
        }
        if (kinds.size() == 300) {
            return -2;
        }
        Kind added = new Kind();
        added.entries = new ArrayList<>();
        added.union = kind == 1;
        added.open = true;
        kinds.add(added);
        return kinds.size() - 1;
    }

    @Override
    public int field(int r, int t) {
        if (!isOpen(r) || !has(t)) {
            return -1;
        }
        if (!hasSize(t)) {
            return -2;
        }
        if (members(r) == 100) {
            return -3;
        }
        return addEntry(r, new Entry(false, t, 0, true)) ? members(r) - 1 : -4;
    }

    @Override
    public int bits(int r, int t, int width, boolean named) {
        if (!isOpen(r)) {
            return -1;
        }
        if (t < 5 || t > 6 || width < 1 || width > 32) {
            return -2;
        }
        if (named && members(r) == 100) {
            return -3;
        }
        if (!addEntry(r, new Entry(false, t, width, named))) {
            return -4;
        }
        return named ? members(r) - 1 : 100;
    }

    @Override
    public boolean separate(int r) {
        if (!isOpen(r)) {
            return false;
        }
        kinds.get(r).entries.add(new Entry(true, 0, 0, false));
        return true;
    }

    @Override
    public int finish(int r) {
        if (!isOpen(r)) {
            return -1;
        }
        if (members(r) == 0) {
            return -2;
        }
        Kind kind = kinds.get(r);
        Layout layout = layout(kind);
        long size = layout.reach;
        while (size % layout.align != 0) {
            size++;
        }
        if (size > LIMIT) {
            return -3;
        }
        kind.size = size;
        kind.open = false;
        return (int) size;
    }

    @Override
    public int types() {
        return kinds.size();
    }

    @Override
    public int size(int t) {
        return !has(t) ? -1 : (int) kinds.get(t).size;
    }

    @Override
    public int align(int t) {
        if (!has(t)) {
            return -1;
        }
        Kind kind = kinds.get(t);
        return kind.entries == null ? kind.align : layout(kind).align;
    }

    @Override
    public int members(int r) {
        if (!isRecord(r)) {
            return -1;
        }
        return (int) kinds.get(r).entries.stream().filter(Entry::isMember).count();
    }

    @Override
    public int member(int r, int k, int what) {
        if (k < 0 || k >= members(r)) {
            return -1;
        }
        Spot spot = layout(kinds.get(r)).spots.get(k);
        int[] answers = {spot.place, spot.type, spot.lowest, spot.width};
        return what < 0 || what > 3 ? -1 : answers[what];
    }

    private boolean has(int t) {
        return t >= 0 && t < kinds.size();
    }

    private boolean isRecord(int r) {
        return has(r) && kinds.get(r).entries != null;
    }

    private boolean isOpen(int r) {
        return isRecord(r) && kinds.get(r).open;
    }

    private boolean hasSize(int t) {
        return t != 0 && !isOpen(t);
    }

    private int addSized(long size, int align) {
        Kind added = new Kind();
        added.size = size;
        added.align = align;
        kinds.add(added);
        return kinds.size() - 1;
    }

    private boolean addEntry(int r, Entry entry) {
        List<Entry> entries = kinds.get(r).entries;
        entries.add(entry);
        if (layout(kinds.get(r)).reach <= LIMIT) {
            return true;
        }
        entries.remove(entries.size() - 1);
        return false;
    }

    /** Counts the place in bits: a bit-field in the unit before it goes on where the last one ended. */
    private Layout layout(Kind kind) {
        List<Spot> spots = new ArrayList<>();
        long reach = 0;
        int align = 0;
        long nextBit = 0;
        Entry before = null;
        for (Entry entry : kind.entries) {
            if (!entry.isBreak) {
                int step = entry.isBits() ? 4 : align(entry.type);
                long bytes = entry.isBits() ? 4 : kinds.get(entry.type).size;
                align = Math.max(align, step);
                boolean goesOn = entry.isBits() && before != null && before.isBits() && !kind.union
                        && nextBit + entry.width <= reach * 8;
                long place = kind.union ? 0 : goesOn ? reach - 4 : (reach + step - 1) / step * step;
                long bit = goesOn ? nextBit : place * 8;
                if (entry.named) {
                    spots.add(new Spot((int) place, entry.type, (int) (bit - place * 8), entry.width));
                }
                nextBit = bit + entry.width;
                reach = Math.max(reach, place + bytes);
            }
            before = entry;
        }
        return new Layout(spots, reach, align);
    }
}
