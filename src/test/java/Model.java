import java.util.ArrayDeque;
import java.util.ArrayList;
import java.util.Deque;
import java.util.LinkedHashMap;
import java.util.LinkedHashSet;
import java.util.List;
import java.util.Map;
import java.util.NoSuchElementException;
import java.util.Set;

/** The document written down a second time, with objects and sets instead of cells and bits. */
final class Model implements Face {
    private static final class Thing {
        int kind;
        int serial;
        int state;
        int action;
        int root;
        Thing[] fields = new Thing[0];
        Map<Thing, Thing> entries = new LinkedHashMap<>();
    }

    private final Thing[] cells = new Thing[24];
    private final Thing[] roots = new Thing[6];
    private final Deque<Thing> queue = new ArrayDeque<>();
    private int made;
    private int collections;

    @Override
    public int make(int kind) {
        if (kind < 0 || kind > 2) {
            throw new IllegalArgumentException();
        }
        int cell = cellOf(null);
        if (cell < 0) {
            collect();
            cell = cellOf(null);
        }
        if (cell < 0) {
            throw new IllegalStateException();
        }
        Thing thing = new Thing();
        thing.kind = kind;
        thing.serial = ++made;
        thing.fields = new Thing[kind == 0 ? 3 : kind == 1 ? 1 : 0];
        cells[cell] = thing;
        return cell;
    }

    @Override
    public void set(int cell, int f, int t) {
        Thing thing = at(cell);
        Thing target = t == -1 ? null : at(t);
        thing.fields[field(thing, f)] = target;
    }

    @Override
    public int get(int cell, int f) {
        Thing thing = at(cell);
        return cellOrNone(thing.fields[field(thing, f)]);
    }

    @Override
    public boolean put(int cell, int key, int value) {
        Thing table = at(cell);
        Thing k = at(key);
        Thing v = at(value);
        Map<Thing, Thing> entries = entries(table);
        if (entries.size() == 4 && !entries.containsKey(k)) {
            throw new IllegalStateException();
        }
        return entries.put(k, v) == null;
    }

    @Override
    public int find(int cell, int key) {
        Thing table = at(cell);
        Thing k = at(key);
        return cellOrNone(entries(table).get(k));
    }

    @Override
    public boolean remove(int cell, int key) {
        Thing table = at(cell);
        Thing k = at(key);
        return entries(table).remove(k) != null;
    }

    @Override
    public int key(int cell, int i) {
        List<Thing> keys = new ArrayList<>(entries(at(cell)).keySet());
        if (i < 0 || i >= keys.size()) {
            throw new IndexOutOfBoundsException();
        }
        return cellOf(keys.get(i));
    }

    @Override
    public void root(int r, int cell) {
        requireRoot(r);
        roots[r] = cell == -1 ? null : at(cell);
    }

    @Override
    public int rootAt(int r) {
        requireRoot(r);
        return cellOrNone(roots[r]);
    }

    @Override
    public void guard(int cell, int action, int r) {
        Thing thing = at(cell);
        if (action < 0 || action > 3) {
            throw new IllegalArgumentException();
        }
        requireRoot(r);
        if (thing.state != 0) {
            throw new IllegalStateException();
        }
        thing.state = 1;
        thing.action = action;
        thing.root = r;
    }

    @Override
    public int collect() {
        collections++;
        Set<Thing> live = new LinkedHashSet<>();
        for (Thing thing : roots) {
            add(live, thing);
        }
        close(live);
        forget(live);
        for (Thing thing : cells) {
            if (thing != null && !live.contains(thing) && thing.state == 1) {
                thing.state = 2;
                queue.addLast(thing);
            }
        }
        Set<Thing> kept = new LinkedHashSet<>(live);
        kept.addAll(queue);
        close(kept);
        forget(kept);
        int freed = 0;
        for (int cell = 0; cell < 24; cell++) {
            if (cells[cell] != null && !kept.contains(cells[cell])) {
                cells[cell] = null;
                freed++;
            }
        }
        return freed;
    }

    @Override
    public int run() {
        if (queue.isEmpty()) {
            throw new NoSuchElementException();
        }
        Thing thing = queue.removeFirst();
        thing.state = 3;
        if (thing.action == 1) {
            roots[thing.root] = thing;
        } else if (thing.action == 2 && thing.kind == 0) {
            roots[thing.root] = thing.fields[0];
        } else if (thing.action == 3) {
            thing.fields = new Thing[thing.fields.length];
            thing.entries.clear();
        }
        return cellOf(thing);
    }

    @Override
    public int queued() {
        return queue.size();
    }

    @Override
    public int used() {
        int used = 0;
        for (int cell = 0; cell < 24; cell++) {
            used += cells[cell] == null ? 0 : 1 << cell;
        }
        return used;
    }

    @Override
    public int kind(int cell) {
        return at(cell).kind + 4 * at(cell).state;
    }

    @Override
    public int serial(int cell) {
        return at(cell).serial;
    }

    @Override
    public int collections() {
        return collections;
    }

    private Thing at(int cell) {
        if (cell < 0 || cell > 23 || cells[cell] == null) {
            throw new NoSuchElementException();
        }
        return cells[cell];
    }

    private static int field(Thing thing, int f) {
        if (f < 0 || f >= thing.fields.length) {
            throw new IllegalArgumentException();
        }
        return f;
    }

    private static Map<Thing, Thing> entries(Thing thing) {
        if (thing.kind != 2) {
            throw new IllegalArgumentException();
        }
        return thing.entries;
    }

    private static void requireRoot(int r) {
        if (r < 0 || r > 5) {
            throw new IndexOutOfBoundsException();
        }
    }

    private int cellOf(Thing thing) {
        for (int cell = 0; cell < 24; cell++) {
            if (cells[cell] == thing) {
                return cell;
            }
        }
        return -1;
    }

    private int cellOrNone(Thing thing) {
        if (thing == null) {
            return -1;
        }
        int cell = cellOf(thing);
        if (cell < 0) {
            throw new AssertionError("a freed thing is still referred to");
        }
        return cell;
    }

    private static boolean add(Set<Thing> set, Thing thing) {
        return thing != null && set.add(thing);
    }

    private static void close(Set<Thing> set) {
        boolean grown = true;
        while (grown) {
            grown = false;
            for (Thing thing : new ArrayList<>(set)) {
                if (thing.kind == 0) {
                    for (Thing held : thing.fields) {
                        grown |= add(set, held);
                    }
                }
                for (Map.Entry<Thing, Thing> entry : thing.entries.entrySet()) {
                    grown |= set.contains(entry.getKey()) && add(set, entry.getValue());
                }
            }
        }
    }

    private static void forget(Set<Thing> set) {
        for (Thing thing : set) {
            if (thing.kind == 1 && !set.contains(thing.fields[0])) {
                thing.fields[0] = null;
            }
            thing.entries.keySet().removeIf(key -> !set.contains(key));
        }
    }
}
