import java.util.NoSuchElementException;

/** The edges that the promises 1 to 18 name: a method for each sentence, in the document's order. */
public final class PromiseEdgesTest {
    private static final Check CHECK = new Check();
    private static final int R = Heaps.R, W = Heaps.W, T = Heaps.T, NONE = Heaps.NONE, ALL = Heaps.ALL;
    private static final int MIN = Integer.MIN_VALUE, MAX = Integer.MAX_VALUE;
    private static final Class<NoSuchElementException> NO_THING = NoSuchElementException.class;
    private static final Class<IllegalArgumentException> BAD_ARGUMENT = IllegalArgumentException.class;
    private static final Class<IllegalStateException> BAD_STATE = IllegalStateException.class;
    private static final Class<IndexOutOfBoundsException> BAD_INDEX = IndexOutOfBoundsException.class;

    public static void main(String[] args) {
        newObject();
        makeInTheLeastCell();
        makeCollectsFirst();
        makeOfNoKind();
        makeWithoutACell();
        makeWithoutACellHasCollected();
        setNone();
        setOfNoCells();
        setOfNoField();
        getNone();
        getOfNoCell();
        getOfNoField();
        putTrueIfThereWasNone();
        putOfNoCells();
        putIntoNoTable();
        putIntoAFullTable();
        findNone();
        findOfNoCells();
        findInNoTable();
        removeWhetherThereWasOne();
        removeFromEachPlace();
        removeOfNoCells();
        removeFromNoTable();
        keyOfEntryFrom0();
        keyOfNoCell();
        keyOfNoTable();
        keyOfNoEntry();
        rootNone();
        rootOfNoRoot();
        rootOfNoCell();
        rootAtNone();
        rootAtNoRoot();
        guardWaits();
        guardOfNoCell();
        guardOfNoAction();
        guardOfNoRoot();
        guardOfAGuardedThing();
        collectCountsTheFreed();
        runOfAnEmptyQueue();
        queuedFromEmptyToFull();
        usedFromEmptyToFull();
        kindAndState();
        kindOfNoCell();
        serialsOfRefusedMakes();
        serialOfNoCell();
        howOftenWasCollected();
        CHECK.finish();
    }

    /** 1: "No things, all roots none." */
    private static void newObject() {
        EphemeronHeap heap = new EphemeronHeap();
        CHECK.equal("1: used", heap.used(), 0);
        for (int r = 0; r < 6; r++) {
            CHECK.equal("1: root " + r, heap.rootAt(r), NONE);
        }
        for (int cell = 0; cell < 24; cell++) {
            int c = cell;
            CHECK.refused("1: kind(" + c + ")", heap, NO_THING, () -> heap.kind(c));
        }
        CHECK.equal("1: queued", heap.queued(), 0);
        CHECK.equal("1: collections", heap.collections(), 0);
    }

    /** 2: "Makes a thing of a kind, in the least cell that has none" */
    private static void makeInTheLeastCell() {
        EphemeronHeap heap = new EphemeronHeap();
        CHECK.equal("2: the first cell", heap.make(T), 0);
        for (int cell = 1; cell < 23; cell++) {
            heap.make(R);
        }
        CHECK.equal("2: the last cell", heap.make(W), 23);
        CHECK.equal("2: not collected for it", heap.collections(), 0);
        EphemeronHeap gaps = Heaps.many(24, R);
        gaps.root(0, 0);
        gaps.root(1, 22);
        gaps.collect();
        for (int cell = 1; cell < 22; cell++) {
            CHECK.equal("2: a gap", gaps.make(W), cell);
        }
        CHECK.equal("2: behind the gaps", gaps.make(W), 23);
        CHECK.equal("2: not collected for them", gaps.collections(), 1);
    }

    /** 2: "if there is no such cell, it is collected first: its cell" */
    private static void makeCollectsFirst() {
        for (int free : new int[] {0, 12, 23}) {
            EphemeronHeap heap = Heaps.many(24, R);
            for (int cell = 0; cell < 24; cell++) {
                if (cell != free) {
                    heap.guard(cell, 0, 0);
                }
            }
            CHECK.equal("2: the one cell that became free", heap.make(T), free);
            CHECK.equal("2: collections", heap.collections(), 1);
            CHECK.equal("2: used", heap.used(), ALL);
            CHECK.equal("2: the new thing", heap.kind(free), T);
        }
        EphemeronHeap all = Heaps.many(24, W);
        CHECK.equal("2: all became free", all.make(R), 0);
        CHECK.equal("2: used by one", all.used(), 1);
    }

    /** 2: "IllegalArgumentException when kind is not 0 .. 2" */
    private static void makeOfNoKind() {
        for (int kind : new int[] {-1, 3, 4, MIN, MAX}) {
            EphemeronHeap heap = Heaps.of(R);
            CHECK.refused("2: make(" + kind + ")", heap, BAD_ARGUMENT, () -> heap.make(kind));
            EphemeronHeap full = Heaps.many(24, R);
            CHECK.refused("2: make(" + kind + "), full", full, BAD_ARGUMENT, () -> full.make(kind));
        }
        for (int kind = 0; kind < 3; kind++) {
            EphemeronHeap heap = new EphemeronHeap();
            CHECK.equal("2: make(" + kind + ")", heap.make(kind), 0);
            CHECK.equal("2: its kind", heap.kind(0), kind);
        }
    }

    /** 2: "IllegalStateException when there is none behind that either" */
    private static void makeWithoutACell() {
        EphemeronHeap live = Heaps.chain(24);
        CHECK.thrown("2: make, all live", BAD_STATE, () -> live.make(R));
        CHECK.equal("2: used, all live", live.used(), ALL);
        EphemeronHeap kept = Heaps.many(24, R);
        for (int cell = 0; cell < 24; cell++) {
            kept.guard(cell, 0, 0);
        }
        CHECK.thrown("2: make, all kept", BAD_STATE, () -> kept.make(T));
        CHECK.equal("2: used, all kept", kept.used(), ALL);
        kept.run();
        CHECK.equal("2: make, one not kept any more", kept.make(T), 0);
    }

    /** 2: "(but it has been collected)": a refused make leaves the heap as a collection does. */
    private static void makeWithoutACellHasCollected() {
        EphemeronHeap made = fullAndGuarded();
        CHECK.thrown("2: make", BAD_STATE, () -> made.make(R));
        EphemeronHeap collected = fullAndGuarded();
        CHECK.equal("2: freed", collected.collect(), 0);
        CHECK.equal("2: as if collected", Snapshot.of(made), Snapshot.of(collected));
        CHECK.equal("2: a referent was lost", made.get(0, 0), NONE);
        CHECK.equal("2: an entry was lost", Snapshot.entries(made, 1), "0=1");
        CHECK.equal("2: things were queued", made.queued(), 22);
        CHECK.equal("2: collections", made.collections(), 1);
    }

    /** A live weak reference and a live table, and 22 guarded records that nothing holds. */
    private static EphemeronHeap fullAndGuarded() {
        EphemeronHeap heap = Heaps.of(W, T);
        for (int cell = 2; cell < 24; cell++) {
            heap.guard(heap.make(R), 0, 0);
        }
        heap.root(0, 0);
        heap.root(1, 1);
        heap.set(0, 0, 2);
        heap.put(1, 3, 4);
        heap.put(1, 0, 1);
        return heap;
    }

    /** 3: "or none (t = -1)" */
    private static void setNone() {
        for (int kind : new int[] {R, W}) {
            EphemeronHeap heap = Heaps.of(kind);
            heap.set(0, 0, 0);
            heap.set(0, 0, -1);
            CHECK.equal("3: none", heap.get(0, 0), NONE);
            heap.set(0, 0, -1);
            CHECK.equal("3: none again", heap.get(0, 0), NONE);
            CHECK.refused("3: -2 is not none", heap, NO_THING, () -> heap.set(0, 0, -2));
        }
    }

    /** 3: "NoSuchElementException for both cells" */
    private static void setOfNoCells() {
        EphemeronHeap heap = Heaps.of(R, W);
        heap.set(0, 0, 1);
        for (int cell : new int[] {2, 23, 24}) {
            CHECK.refused("3: set(" + cell + ", 0, 1)", heap, NO_THING, () -> heap.set(cell, 0, 1));
            CHECK.refused("3: set(0, 0, " + cell + ")", heap, NO_THING, () -> heap.set(0, 0, cell));
            CHECK.refused("3: set(" + cell + ", 0, -1)", heap, NO_THING, () -> heap.set(cell, 0, -1));
        }
        CHECK.refused("3: set(-1, 0, 1)", heap, NO_THING, () -> heap.set(-1, 0, 1));
        CHECK.refused("3: set(-1, 0, -1)", heap, NO_THING, () -> heap.set(-1, 0, -1));
    }

    /** 3: "IllegalArgumentException when the thing has no such field (a table has none)" */
    private static void setOfNoField() {
        EphemeronHeap heap = Heaps.of(R, W, T);
        int[][] wrong = {{0, -1}, {0, 3}, {1, -1}, {1, 1}, {1, 2}, {2, -1}, {2, 0}, {2, 1}};
        for (int[] w : wrong) {
            CHECK.refused("3: set(" + w[0] + ", " + w[1] + ", 0)", heap, BAD_ARGUMENT, () -> heap.set(w[0], w[1], 0));
        }
    }

    /** 4: "The cell of what is in field f of the thing in a cell, or NONE." */
    private static void getNone() {
        EphemeronHeap heap = Heaps.many(24, R);
        heap.set(23, 2, 0);
        heap.set(0, 0, 23);
        CHECK.equal("4: the least cell", heap.get(23, 2), 0);
        CHECK.equal("4: the last cell", heap.get(0, 0), 23);
        CHECK.equal("4: none", heap.get(0, 2), NONE);
    }

    /** 4: "NoSuchElementException" */
    private static void getOfNoCell() {
        EphemeronHeap heap = Heaps.of(R);
        for (int cell : new int[] {MIN, -1, 1, 23, 24, 32, MAX}) {
            CHECK.refused("4: get(" + cell + ", 0)", heap, NO_THING, () -> heap.get(cell, 0));
        }
    }

    /** 4: "IllegalArgumentException when the thing has no such field" */
    private static void getOfNoField() {
        EphemeronHeap heap = Heaps.of(R, W, T);
        int[][] wrong = {{0, -1}, {0, 3}, {1, -1}, {1, 1}, {1, 2}, {2, -1}, {2, 0}, {2, 1}};
        for (int[] w : wrong) {
            CHECK.refused("4: get(" + w[0] + ", " + w[1] + ")", heap, BAD_ARGUMENT, () -> heap.get(w[0], w[1]));
        }
    }

    /** 5: "the entry of a key gets a value; if it has none, it comes behind the others. True if there was none." */
    private static void putTrueIfThereWasNone() {
        EphemeronHeap heap = Heaps.of(T, R, R, R);
        CHECK.equal("5: into an empty table", heap.put(0, 3, 1), true);
        CHECK.equal("5: behind it", heap.put(0, 1, 1), true);
        CHECK.equal("5: the same key", heap.put(0, 3, 2), false);
        CHECK.equal("5: the same key and value", heap.put(0, 3, 2), false);
        CHECK.equal("5: the table as its own key and value", heap.put(0, 0, 0), true);
        CHECK.equal("5: entries", Snapshot.entries(heap, 0), "3=2 1=1 0=0");
    }

    /** 5: "NoSuchElementException for any of the cells" */
    private static void putOfNoCells() {
        EphemeronHeap heap = Heaps.of(T, R);
        for (int cell : new int[] {-1, 2, 24}) {
            CHECK.refused("5: put(" + cell + ", 1, 1)", heap, NO_THING, () -> heap.put(cell, 1, 1));
            CHECK.refused("5: put(0, " + cell + ", 1)", heap, NO_THING, () -> heap.put(0, cell, 1));
            CHECK.refused("5: put(0, 1, " + cell + ")", heap, NO_THING, () -> heap.put(0, 1, cell));
        }
    }

    /** 5: "IllegalArgumentException when it is no table" */
    private static void putIntoNoTable() {
        EphemeronHeap heap = Heaps.of(R, W, T);
        CHECK.refused("5: into a record", heap, BAD_ARGUMENT, () -> heap.put(0, 2, 2));
        CHECK.refused("5: into a weak reference", heap, BAD_ARGUMENT, () -> heap.put(1, 2, 2));
    }

    /** 5: "IllegalStateException when it has 4 entries, and none of this key" */
    private static void putIntoAFullTable() {
        EphemeronHeap heap = Heaps.fullTable();
        CHECK.refused("5: a fifth key", heap, BAD_STATE, () -> heap.put(0, 5, 6));
        for (int key = 1; key <= 4; key++) {
            CHECK.equal("5: a key that it has", heap.put(0, key, 5), false);
        }
        CHECK.equal("5: entries", Snapshot.entries(heap, 0), "1=5 2=5 3=5 4=5");
        heap.remove(0, 2);
        CHECK.equal("5: a fourth key", heap.put(0, 5, 6), true);
        CHECK.refused("5: a fifth key again", heap, BAD_STATE, () -> heap.put(0, 2, 6));
    }

    /** 6: "The cell of the value of a key in a table, or NONE." */
    private static void findNone() {
        EphemeronHeap heap = Heaps.fullTable();
        CHECK.equal("6: the first", heap.find(0, 1), 6);
        CHECK.equal("6: the last", heap.find(0, 4), 6);
        CHECK.equal("6: no such key", heap.find(0, 5), NONE);
        CHECK.equal("6: a value is no key", heap.find(0, 6), NONE);
        heap.remove(0, 4);
        CHECK.equal("6: a key that went", heap.find(0, 4), NONE);
        CHECK.equal("6: in an empty table", Heaps.of(T).find(0, 0), NONE);
    }

    /** 6: "NoSuchElementException for both cells" */
    private static void findOfNoCells() {
        EphemeronHeap heap = Heaps.of(T, R);
        for (int cell : new int[] {-1, 2, 24}) {
            CHECK.refused("6: find(" + cell + ", 1)", heap, NO_THING, () -> heap.find(cell, 1));
            CHECK.refused("6: find(0, " + cell + ")", heap, NO_THING, () -> heap.find(0, cell));
        }
    }

    /** 6: "IllegalArgumentException when it is no table" */
    private static void findInNoTable() {
        EphemeronHeap heap = Heaps.of(R, W);
        CHECK.refused("6: in a record", heap, BAD_ARGUMENT, () -> heap.find(0, 1));
        CHECK.refused("6: in a weak reference", heap, BAD_ARGUMENT, () -> heap.find(1, 0));
    }

    /** 7: "The entry of a key goes from a table: whether there was one." */
    private static void removeWhetherThereWasOne() {
        EphemeronHeap heap = Heaps.fullTable();
        CHECK.equal("7: from an empty table", Heaps.of(T).remove(0, 0), false);
        CHECK.equal("7: no such key", heap.remove(0, 5), false);
        CHECK.equal("7: a value is no key", heap.remove(0, 6), false);
        CHECK.equal("7: nothing went", Snapshot.entries(heap, 0), "1=6 2=6 3=6 4=6");
        CHECK.equal("7: the last of a full table", heap.remove(0, 4), true);
        CHECK.equal("7: it again", heap.remove(0, 4), false);
        CHECK.equal("7: the first", heap.remove(0, 1), true);
        CHECK.equal("7: entries", Snapshot.entries(heap, 0), "2=6 3=6");
        heap.remove(0, 2);
        CHECK.equal("7: the only one", heap.remove(0, 3), true);
        CHECK.equal("7: from the table that became empty", heap.remove(0, 3), false);
        CHECK.equal("7: its key still has a thing", heap.kind(3), R);
    }

    /** 7: "The entry of a key goes from a table": from each place of a full one, in the first cell and in the last. */
    private static void removeFromEachPlace() {
        String[] due = {"1=1 2=2 3=3", "0=0 2=2 3=3", "0=0 1=1 3=3", "0=0 1=1 2=2"};
        for (int cell : new int[] {0, 23}) {
            for (int i = 0; i < 4; i++) {
                EphemeronHeap heap = Heaps.many(24, T);
                for (int key = 0; key < 4; key++) {
                    heap.put(cell, key, key);
                }
                CHECK.equal("7: entry " + i + " of " + cell, heap.remove(cell, i), true);
                CHECK.equal("7: the others of " + cell, Snapshot.entries(heap, cell), due[i]);
            }
        }
    }

    /** 7: "NoSuchElementException for both cells" */
    private static void removeOfNoCells() {
        EphemeronHeap heap = Heaps.of(T, R);
        heap.put(0, 1, 1);
        for (int cell : new int[] {-1, 2, 24}) {
            CHECK.refused("7: remove(" + cell + ", 1)", heap, NO_THING, () -> heap.remove(cell, 1));
            CHECK.refused("7: remove(0, " + cell + ")", heap, NO_THING, () -> heap.remove(0, cell));
        }
    }

    /** 7: "IllegalArgumentException when it is no table" */
    private static void removeFromNoTable() {
        EphemeronHeap heap = Heaps.of(R, W);
        CHECK.refused("7: from a record", heap, BAD_ARGUMENT, () -> heap.remove(0, 1));
        CHECK.refused("7: from a weak reference", heap, BAD_ARGUMENT, () -> heap.remove(1, 0));
    }

    /** 8: "The cell of the key of entry i (from 0) of a table." */
    private static void keyOfEntryFrom0() {
        EphemeronHeap heap = Heaps.fullTable();
        for (int i = 0; i < 4; i++) {
            CHECK.equal("8: key " + i, heap.key(0, i), i + 1);
        }
    }

    /** 8: "NoSuchElementException for the cell" */
    private static void keyOfNoCell() {
        EphemeronHeap heap = Heaps.of(T);
        heap.put(0, 0, 0);
        for (int cell : new int[] {MIN, -1, 1, 23, 24, 32, MAX}) {
            CHECK.refused("8: key(" + cell + ", 0)", heap, NO_THING, () -> heap.key(cell, 0));
        }
    }

    /** 8: "IllegalArgumentException when it is no table" */
    private static void keyOfNoTable() {
        EphemeronHeap heap = Heaps.of(R, W);
        CHECK.refused("8: of a record", heap, BAD_ARGUMENT, () -> heap.key(0, 0));
        CHECK.refused("8: of a weak reference", heap, BAD_ARGUMENT, () -> heap.key(1, 0));
    }

    /** 8: "IndexOutOfBoundsException when there is no such entry" */
    private static void keyOfNoEntry() {
        EphemeronHeap heap = Heaps.of(T, R, R, R);
        for (int entries = 0; entries <= 4; entries++) {
            String before = Snapshot.of(heap);
            for (int i : new int[] {MIN, -1, entries, 4, 5, MAX}) {
                CHECK.thrown("8: key(0, " + i + ") of " + entries, BAD_INDEX, () -> heap.key(0, i));
            }
            CHECK.equal("8: all of it as it was", Snapshot.of(heap), before);
            if (entries < 4) {
                heap.put(0, entries, 0);
                CHECK.equal("8: the last entry", heap.key(0, entries), entries);
            }
        }
        heap.remove(0, 0);
        CHECK.refused("8: behind the last once one went", heap, BAD_INDEX, () -> heap.key(0, 3));
    }

    /** 9: "Root r becomes the thing in a cell, or none (cell = -1)." */
    private static void rootNone() {
        EphemeronHeap heap = Heaps.many(24, W);
        heap.root(0, 23);
        heap.root(5, 0);
        CHECK.equal("9: the last cell", heap.rootAt(0), 23);
        CHECK.equal("9: the first cell", heap.rootAt(5), 0);
        heap.root(0, -1);
        heap.root(3, -1);
        CHECK.equal("9: none", heap.rootAt(0), NONE);
        CHECK.equal("9: none as before", heap.rootAt(3), NONE);
        CHECK.equal("9: the other stays", heap.rootAt(5), 0);
    }

    /** 9: "IndexOutOfBoundsException" */
    private static void rootOfNoRoot() {
        EphemeronHeap heap = Heaps.of(R);
        for (int r : new int[] {MIN, -1, 6, MAX}) {
            CHECK.refused("9: root(" + r + ", 0)", heap, BAD_INDEX, () -> heap.root(r, 0));
            CHECK.refused("9: root(" + r + ", -1)", heap, BAD_INDEX, () -> heap.root(r, -1));
        }
    }

    /** 9: "NoSuchElementException" */
    private static void rootOfNoCell() {
        EphemeronHeap heap = Heaps.of(R);
        heap.root(0, 0);
        for (int cell : new int[] {MIN, -2, 1, 23, 24, 32, MAX}) {
            CHECK.refused("9: root(0, " + cell + ")", heap, NO_THING, () -> heap.root(0, cell));
        }
    }

    /** 10: "The cell of root r, or NONE." */
    private static void rootAtNone() {
        EphemeronHeap heap = Heaps.of(R);
        heap.root(5, 0);
        for (int r = 0; r < 6; r++) {
            CHECK.equal("10: root " + r, heap.rootAt(r), r == 5 ? 0 : NONE);
        }
    }

    /** 10: "IndexOutOfBoundsException" */
    private static void rootAtNoRoot() {
        EphemeronHeap heap = Heaps.of(R);
        for (int r : new int[] {MIN, -1, 6, MAX}) {
            CHECK.refused("10: rootAt(" + r + ")", heap, BAD_INDEX, () -> heap.rootAt(r));
        }
    }

    /** 11: "The thing in a cell gets a finaliser, waiting." */
    private static void guardWaits() {
        EphemeronHeap heap = Heaps.of(R, W, T, R);
        for (int cell = 0; cell < 4; cell++) {
            heap.guard(cell, cell, cell + 2);
            CHECK.equal("11: waiting", heap.kind(cell), cell % 3 + 4);
        }
        CHECK.equal("11: nothing is queued by it", heap.queued(), 0);
        for (int r = 0; r < 6; r++) {
            CHECK.equal("11: no root is changed by it", heap.rootAt(r), NONE);
        }
    }

    /** 11: "NoSuchElementException" */
    private static void guardOfNoCell() {
        EphemeronHeap heap = Heaps.of(R);
        for (int cell : new int[] {MIN, -1, 1, 23, 24, 32, MAX}) {
            CHECK.refused("11: guard(" + cell + ", 0, 0)", heap, NO_THING, () -> heap.guard(cell, 0, 0));
        }
    }

    /** 11: "IllegalArgumentException when action is not 0 .. 3" */
    private static void guardOfNoAction() {
        EphemeronHeap heap = Heaps.of(R);
        for (int action : new int[] {MIN, -1, 4, MAX}) {
            CHECK.refused("11: guard(0, " + action + ", 0)", heap, BAD_ARGUMENT, () -> heap.guard(0, action, 0));
        }
        heap.guard(0, 3, 0);
        CHECK.equal("11: a refused guard is none", heap.kind(0), R + 4);
    }

    /** 11: "IndexOutOfBoundsException for the root" */
    private static void guardOfNoRoot() {
        EphemeronHeap heap = Heaps.of(R);
        for (int action : new int[] {0, 3}) {
            for (int r : new int[] {MIN, -1, 6, MAX}) {
                CHECK.refused("11: guard(0, " + action + ", " + r + ")", heap, BAD_INDEX,
                    () -> heap.guard(0, action, r));
            }
        }
        heap.guard(0, 0, 5);
        CHECK.equal("11: a refused guard is none", heap.kind(0), R + 4);
    }

    /** 11: "IllegalStateException when it has one, in whatever state" */
    private static void guardOfAGuardedThing() {
        EphemeronHeap heap = Heaps.of(R, R);
        heap.guard(0, 1, 5);
        CHECK.refused("11: waiting", heap, BAD_STATE, () -> heap.guard(0, 3, 0));
        heap.collect();
        CHECK.refused("11: queued", heap, BAD_STATE, () -> heap.guard(0, 3, 0));
        heap.run();
        CHECK.equal("11: the first finaliser counts", heap.rootAt(5), 0);
        CHECK.refused("11: done", heap, BAD_STATE, () -> heap.guard(0, 1, 5));
        heap.root(5, NONE);
        CHECK.equal("11: freed", heap.collect(), 1);
        heap.make(W);
        heap.guard(0, 1, 5);
        CHECK.equal("11: a new thing in the cell has none yet", heap.kind(0), W + 4);
    }

    /** 12: "Collects: how many things were freed." */
    private static void collectCountsTheFreed() {
        CHECK.equal("12: of a new heap", new EphemeronHeap().collect(), 0);
        CHECK.equal("12: of a full heap", Heaps.many(24, T).collect(), 24);
        EphemeronHeap live = Heaps.chain(24);
        CHECK.equal("12: of a live heap", live.collect(), 0);
        live.set(22, 2, NONE);
        CHECK.equal("12: of one thing", live.collect(), 1);
        CHECK.equal("12: of none again", live.collect(), 0);
        EphemeronHeap queued = Heaps.many(3, R);
        queued.guard(1, 0, 0);
        CHECK.equal("12: the queued one does not count", queued.collect(), 2);
    }

    /** 13: "the cell of its thing. NoSuchElementException when the queue is empty." */
    private static void runOfAnEmptyQueue() {
        EphemeronHeap empty = new EphemeronHeap();
        CHECK.refused("13: of a new heap", empty, NO_THING, empty::run);
        EphemeronHeap heap = Heaps.many(24, R);
        heap.guard(23, 1, 0);
        CHECK.refused("13: while it waits", heap, NO_THING, heap::run);
        heap.collect();
        CHECK.equal("13: the last cell", heap.run(), 23);
        CHECK.refused("13: the queue is empty again", heap, NO_THING, heap::run);
    }

    /** 14: "How many things are in the queue." */
    private static void queuedFromEmptyToFull() {
        EphemeronHeap heap = Heaps.many(24, W);
        CHECK.equal("14: empty", heap.queued(), 0);
        for (int cell = 0; cell < 24; cell++) {
            heap.guard(cell, 0, 0);
        }
        CHECK.equal("14: the waiting do not count", heap.queued(), 0);
        heap.collect();
        CHECK.equal("14: full", heap.queued(), 24);
        heap.run();
        CHECK.equal("14: the done do not count", heap.queued(), 23);
    }

    /** 15: "The cells that have things, cell c as the bit 2^c." */
    private static void usedFromEmptyToFull() {
        EphemeronHeap heap = new EphemeronHeap();
        CHECK.equal("15: empty", heap.used(), 0);
        for (int cell = 0; cell < 24; cell++) {
            heap.make(R);
            CHECK.equal("15: up to " + cell, heap.used(), (2 << cell) - 1);
        }
        CHECK.equal("15: full", heap.used(), 16777215);
        heap.root(0, 23);
        heap.collect();
        CHECK.equal("15: the last cell alone", heap.used(), 8388608);
        heap.root(0, NONE);
        heap.collect();
        CHECK.equal("15: empty again", heap.used(), 0);
    }

    /** 16: "plus 4 times the state of its finaliser: 0 none, 1 waiting, 2 queued, 3 done" */
    private static void kindAndState() {
        EphemeronHeap heap = Heaps.of(R, W, T);
        for (int state = 0; state < 4; state++) {
            for (int kind = 0; kind < 3; kind++) {
                CHECK.equal("16: kind " + kind + ", state " + state, heap.kind(kind), kind + 4 * state);
            }
            for (int cell = 0; cell < 3; cell++) {
                if (state == 0) {
                    heap.guard(cell, 0, 0);
                } else if (state == 2) {
                    heap.run();
                }
            }
            if (state == 1) {
                heap.collect();
            }
        }
    }

    /** 16: "NoSuchElementException" */
    private static void kindOfNoCell() {
        EphemeronHeap heap = Heaps.of(R);
        for (int cell : new int[] {MIN, -1, 1, 23, 24, 32, MAX}) {
            CHECK.refused("16: kind(" + cell + ")", heap, NO_THING, () -> heap.kind(cell));
        }
    }

    /** 17: "The serial number of the thing in a cell": a make that is refused made none. */
    private static void serialsOfRefusedMakes() {
        EphemeronHeap heap = Heaps.chain(24);
        CHECK.thrown("17: make(3)", BAD_ARGUMENT, () -> heap.make(3));
        CHECK.thrown("17: make(0)", BAD_STATE, () -> heap.make(0));
        heap.set(22, 2, NONE);
        CHECK.equal("17: the next serial", heap.serial(heap.make(R)), 25);
        CHECK.equal("17: the others stay", heap.serial(22), 23);
    }

    /** 17: "NoSuchElementException" */
    private static void serialOfNoCell() {
        EphemeronHeap heap = Heaps.of(R);
        for (int cell : new int[] {MIN, -1, 1, 23, 24, 32, MAX}) {
            CHECK.refused("17: serial(" + cell + ")", heap, NO_THING, () -> heap.serial(cell));
        }
    }

    /** 18: "How often was collected.": by collect, by make, and by a make that throws then. */
    private static void howOftenWasCollected() {
        EphemeronHeap heap = Heaps.many(24, R);
        CHECK.equal("18: not yet", heap.collections(), 0);
        heap.make(R);
        CHECK.equal("18: by make", heap.collections(), 1);
        heap.collect();
        heap.collect();
        CHECK.equal("18: by collect, though it freed nothing", heap.collections(), 3);
        EphemeronHeap live = Heaps.chain(24);
        CHECK.thrown("18: make(-1)", BAD_ARGUMENT, () -> live.make(-1));
        CHECK.equal("18: not by a make of no kind", live.collections(), 0);
        CHECK.thrown("18: make(0)", BAD_STATE, () -> live.make(0));
        CHECK.equal("18: by a make without a cell", live.collections(), 1);
    }
}
