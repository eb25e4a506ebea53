import java.util.NoSuchElementException;

/** A collected heap of 24 cells with records, weak references, ephemeron tables and finalisers. */
public final class EphemeronHeap {
    public static final int RECORD = 0, WEAK = 1, TABLE = 2;
    public static final int NONE = -1;

    private static final int CELLS = 24;
    private static final int ROOTS = 6;
    private static final int FIELDS = 3;
    private static final int ENTRIES = 4;

    private static final int UNGUARDED = 0, WAITING = 1, QUEUED = 2, DONE = 3;
    private static final int DO_NOTHING = 0, ROOT_THING = 1, ROOT_FIELD = 2, EMPTY_THING = 3;

    // A thing is known by its cell alone: nothing that survives a collection refers to a freed cell.
    // A set of things is an int with bit c for the thing in cell c.
    private int occupied;
    private final int[] kinds;
    private final int[] serials;

    private final int[] fields;
    private final int[] keys;
    private final int[] values;
    private final int[] entryCounts;

    private final int[] states;
    private final int[] actions;
    private final int[] targets;

    private final int[] roots;
    private final int[] queue;
    private int queueLength;

    private int thingsMade;
    private int timesCollected;

    public EphemeronHeap() {
        kinds = new int[CELLS];
        serials = new int[CELLS];
        fields = new int[CELLS * FIELDS];
        keys = new int[CELLS * ENTRIES];
        values = new int[CELLS * ENTRIES];
        entryCounts = new int[CELLS];
        states = new int[CELLS];
        actions = new int[CELLS];
        targets = new int[CELLS];
        roots = new int[ROOTS];
        queue = new int[CELLS];
        for (int r = 0; r < ROOTS; r++) {
            roots[r] = NONE;
        }
    }

    public int make(int kind) throws IllegalArgumentException, IllegalStateException {
        if (kind < RECORD || kind > TABLE) {
            throw new IllegalArgumentException("no such kind");
        }
        int cell = leastFreeCell();
        if (cell == NONE) {
            collect();
            cell = leastFreeCell();
        }
        if (cell == NONE) {
            throw new IllegalStateException("no cell is free");
        }
        placeThing(cell, kind);
        return cell;
    }

    public void set(int cell, int f, int t) throws NoSuchElementException, IllegalArgumentException {
        requireThing(cell);
        requireThingOrNone(t);
        requireField(cell, f);
        fields[fieldSlot(cell, f)] = t;
    }

    public int get(int cell, int f) throws NoSuchElementException, IllegalArgumentException {
        requireThing(cell);
        requireField(cell, f);
        return fields[fieldSlot(cell, f)];
    }

    public boolean put(int cell, int key, int value)
            throws NoSuchElementException, IllegalArgumentException, IllegalStateException {
        requireThing(cell);
        requireThing(key);
        requireThing(value);
        requireTable(cell);
        int i = entryOf(cell, key);
        if (i != NONE) {
            values[entrySlot(cell, i)] = value;
            return false;
        }
        if (entryCounts[cell] >= ENTRIES) {
            throw new IllegalStateException("the table is full");
        }
        appendEntry(cell, key, value);
        return true;
    }

    public int find(int cell, int key) throws NoSuchElementException, IllegalArgumentException {
        requireThing(cell);
        requireThing(key);
        requireTable(cell);
        int i = entryOf(cell, key);
        return i == NONE ? NONE : values[entrySlot(cell, i)];
    }

    public boolean remove(int cell, int key) throws NoSuchElementException, IllegalArgumentException {
        requireThing(cell);
        requireThing(key);
        requireTable(cell);
        int i = entryOf(cell, key);
        if (i == NONE) {
            return false;
        }
        dropEntry(cell, i);
        return true;
    }

    public int key(int cell, int i)
            throws NoSuchElementException, IllegalArgumentException, IndexOutOfBoundsException {
        requireThing(cell);
        requireTable(cell);
        if (i < 0 || i >= entryCounts[cell]) {
            throw new IndexOutOfBoundsException("no such entry");
        }
        return keys[entrySlot(cell, i)];
    }

    public void root(int r, int cell) throws IndexOutOfBoundsException, NoSuchElementException {
        requireRoot(r);
        requireThingOrNone(cell);
        roots[r] = cell;
    }

    public int rootAt(int r) throws IndexOutOfBoundsException {
        requireRoot(r);
        return roots[r];
    }

    public void guard(int cell, int action, int r)
            throws NoSuchElementException, IllegalArgumentException, IndexOutOfBoundsException,
            IllegalStateException {
        requireThing(cell);
        if (action < DO_NOTHING || action > EMPTY_THING) {
            throw new IllegalArgumentException("no such action");
        }
        requireRoot(r);
        if (states[cell] != UNGUARDED) {
            throw new IllegalStateException("the thing has a finaliser");
        }
        states[cell] = WAITING;
        actions[cell] = action;
        targets[cell] = r;
    }

    public int collect() {
        timesCollected++;
        int live = closureOf(thingsInRoots());
        forgetOutside(live);
        queueWaiting(occupied & ~live);
        int kept = closureOf(live | thingsInQueue());
        forgetOutside(kept);
        int freed = Integer.bitCount(occupied & ~kept);
        occupied = kept;
        return freed;
    }

    public int run() throws NoSuchElementException {
        if (queueLength == 0) {
            throw new NoSuchElementException("the queue is empty");
        }
        int cell = takeFirstQueued();
        states[cell] = DONE;
        performAction(cell);
        return cell;
    }

    public int queued() {
        return queueLength;
    }

    public int used() {
        return occupied;
    }

    public int kind(int cell) throws NoSuchElementException {
        requireThing(cell);
        return kinds[cell] + 4 * states[cell];
    }

    public int serial(int cell) throws NoSuchElementException {
        requireThing(cell);
        return serials[cell];
    }

    public int collections() {
        return timesCollected;
    }

    private static boolean contains(int set, int cell) {
        return (set & (1 << cell)) != 0;
    }

    private boolean hasThing(int cell) {
        return cell >= 0 && cell < CELLS && contains(occupied, cell);
    }

    private void requireThing(int cell) {
        if (!hasThing(cell)) {
            throw new NoSuchElementException("no thing in this cell");
        }
    }

    private void requireThingOrNone(int cell) {
        if (cell != NONE) {
            requireThing(cell);
        }
    }

    private void requireField(int cell, int f) {
        if (f < 0 || f >= fieldCount(kinds[cell])) {
            throw new IllegalArgumentException("no such field");
        }
    }

    private void requireTable(int cell) {
        if (kinds[cell] != TABLE) {
            throw new IllegalArgumentException("no table");
        }
    }

    private void requireRoot(int r) {
        if (r < 0 || r >= ROOTS) {
            throw new IndexOutOfBoundsException("no such root");
        }
    }

    private static int fieldCount(int kind) {
        if (kind == RECORD) {
            return FIELDS;
        }
        return kind == WEAK ? 1 : 0;
    }

    private static int fieldSlot(int cell, int f) {
        return cell * FIELDS + f;
    }

    private static int entrySlot(int cell, int i) {
        return cell * ENTRIES + i;
    }

    private int leastFreeCell() {
        for (int cell = 0; cell < CELLS; cell++) {
            if (!contains(occupied, cell)) {
                return cell;
            }
        }
        return NONE;
    }

    private void placeThing(int cell, int kind) {
        thingsMade++;
        occupied |= 1 << cell;
        kinds[cell] = kind;
        serials[cell] = thingsMade;
        states[cell] = UNGUARDED;
        emptyThing(cell);
    }

    private void emptyThing(int cell) {
        for (int f = 0; f < FIELDS; f++) {
            fields[fieldSlot(cell, f)] = NONE;
        }
        entryCounts[cell] = 0;
    }

    private int entryOf(int table, int key) {
        for (int i = 0; i < entryCounts[table]; i++) {
            if (keys[entrySlot(table, i)] == key) {
                return i;
            }
        }
        return NONE;
    }

    private void appendEntry(int table, int key, int value) {
        int slot = entrySlot(table, entryCounts[table]);
        keys[slot] = key;
        values[slot] = value;
        entryCounts[table]++;
    }

    private void dropEntry(int table, int dropped) {
        int last = entryCounts[table] - 1;
        for (int i = dropped; i < last; i++) {
            copyEntry(table, i + 1, i);
        }
        entryCounts[table] = last;
    }

    private void copyEntry(int table, int from, int to) {
        keys[entrySlot(table, to)] = keys[entrySlot(table, from)];
        values[entrySlot(table, to)] = values[entrySlot(table, from)];
    }

    private int thingsInRoots() {
        int set = 0;
        for (int r = 0; r < ROOTS; r++) {
            if (roots[r] != NONE) {
                set |= 1 << roots[r];
            }
        }
        return set;
    }

    private int thingsInQueue() {
        int set = 0;
        for (int i = 0; i < queueLength; i++) {
            set |= 1 << queue[i];
        }
        return set;
    }

    private int closureOf(int seed) {
        int set = seed;
        // Each pass but the last adds a thing, so as many passes as there are cells are enough.
        for (int pass = 0; pass < CELLS; pass++) {
            int larger = withThingsHeld(set);
            if (larger == set) {
                return set;
            }
            set = larger;
        }
        return set;
    }

    private int withThingsHeld(int set) {
        int larger = set;
        for (int cell = 0; cell < CELLS; cell++) {
            if (contains(larger, cell)) {
                larger |= thingsHeldBy(cell, larger);
            }
        }
        return larger;
    }

    private int thingsHeldBy(int cell, int set) {
        if (kinds[cell] == RECORD) {
            return thingsInFields(cell);
        }
        return kinds[cell] == TABLE ? valuesOfKeysIn(cell, set) : 0;
    }

    private int thingsInFields(int cell) {
        int held = 0;
        for (int f = 0; f < FIELDS; f++) {
            int thing = fields[fieldSlot(cell, f)];
            if (thing != NONE) {
                held |= 1 << thing;
            }
        }
        return held;
    }

    private int valuesOfKeysIn(int table, int set) {
        int held = 0;
        for (int i = 0; i < entryCounts[table]; i++) {
            int slot = entrySlot(table, i);
            if (contains(set, keys[slot])) {
                held |= 1 << values[slot];
            }
        }
        return held;
    }

    private void forgetOutside(int set) {
        for (int cell = 0; cell < CELLS; cell++) {
            if (contains(set, cell)) {
                if (kinds[cell] == WEAK) {
                    forgetReferentOutside(cell, set);
                } else if (kinds[cell] == TABLE) {
                    forgetEntriesOutside(cell, set);
                }
            }
        }
    }

    private void forgetReferentOutside(int weak, int set) {
        int slot = fieldSlot(weak, 0);
        if (fields[slot] != NONE && !contains(set, fields[slot])) {
            fields[slot] = NONE;
        }
    }

    private void forgetEntriesOutside(int table, int set) {
        int remaining = 0;
        for (int i = 0; i < entryCounts[table]; i++) {
            if (contains(set, keys[entrySlot(table, i)])) {
                copyEntry(table, i, remaining);
                remaining++;
            }
        }
        entryCounts[table] = remaining;
    }

    private void queueWaiting(int dead) {
        for (int cell = 0; cell < CELLS; cell++) {
            // A thing is queued once in its life and kept while it is queued, so the queue has room.
            if (contains(dead, cell) && states[cell] == WAITING && queueLength < CELLS) {
                states[cell] = QUEUED;
                queue[queueLength] = cell;
                queueLength++;
            }
        }
    }

    private int takeFirstQueued() {
        int first = queue[0];
        queueLength--;
        for (int i = 0; i < queueLength; i++) {
            queue[i] = queue[i + 1];
        }
        return first;
    }

    private void performAction(int cell) {
        switch (actions[cell]) {
            case ROOT_THING:
                roots[targets[cell]] = cell;
                break;
            case ROOT_FIELD:
                if (kinds[cell] == RECORD) {
                    roots[targets[cell]] = fields[fieldSlot(cell, 0)];
                }
                break;
            case EMPTY_THING:
                emptyThing(cell);
                break;
            default:
                break;
        }
    }
}
