import java.util.NoSuchElementException;

/** Promises 5 to 8: put, find, remove and key. */
public final class TableTest {
    private static final Check CHECK = new Check();
    private static final int[] NO_CELLS = {-1, -2, 7, 23, 24, 32, 33, -32, Integer.MIN_VALUE, Integer.MAX_VALUE};

    public static void main(String[] args) {
        entriesInTheirOrder();
        putAgainKeepsItsPlace();
        fullTable();
        removeFromEachPlace();
        keyEdges();
        tableHoldsItself();
        tablesAreApart();
        wrongCells();
        noTable();
        orderOfExceptions();
        CHECK.finish();
    }

    /** A table in cell 0, a record in cell 1, a weak reference in cell 2, records in 3 .. 6. */
    private static EphemeronHeap seven() {
        EphemeronHeap heap = new EphemeronHeap();
        heap.make(EphemeronHeap.TABLE);
        heap.make(EphemeronHeap.RECORD);
        heap.make(EphemeronHeap.WEAK);
        for (int cell = 3; cell < 7; cell++) {
            heap.make(EphemeronHeap.RECORD);
        }
        return heap;
    }

    private static EphemeronHeap four() {
        EphemeronHeap heap = seven();
        CHECK.equal("put(0, 5, 1)", heap.put(0, 5, 1), true);
        CHECK.equal("put(0, 3, 2)", heap.put(0, 3, 2), true);
        CHECK.equal("put(0, 6, 3)", heap.put(0, 6, 3), true);
        CHECK.equal("put(0, 4, 4)", heap.put(0, 4, 4), true);
        return heap;
    }

    private static void entriesInTheirOrder() {
        EphemeronHeap heap = four();
        CHECK.equal("entries", Snapshot.entries(heap, 0), "5=1 3=2 6=3 4=4");
        CHECK.equal("find of no key", heap.find(0, 1), EphemeronHeap.NONE);
        CHECK.equal("find in an empty table", seven().find(0, 5), EphemeronHeap.NONE);
    }

    private static void putAgainKeepsItsPlace() {
        EphemeronHeap heap = seven();
        heap.put(0, 5, 1);
        heap.put(0, 3, 2);
        CHECK.equal("put of a key that is there", heap.put(0, 5, 6), false);
        CHECK.equal("entries", Snapshot.entries(heap, 0), "5=6 3=2");
        CHECK.equal("remove", heap.remove(0, 5), true);
        CHECK.equal("put of a key that has gone", heap.put(0, 5, 4), true);
        CHECK.equal("it comes behind the others", Snapshot.entries(heap, 0), "3=2 5=4");
    }

    private static void fullTable() {
        EphemeronHeap heap = four();
        CHECK.refused("put of a fifth key", heap, IllegalStateException.class, () -> heap.put(0, 1, 1));
        CHECK.equal("put of a key of a full table", heap.put(0, 6, 5), false);
        CHECK.equal("put of the last key of a full table", heap.put(0, 4, 6), false);
        CHECK.equal("entries", Snapshot.entries(heap, 0), "5=1 3=2 6=5 4=6");
        CHECK.equal("remove of no key", heap.remove(0, 1), false);
        CHECK.equal("remove", heap.remove(0, 3), true);
        CHECK.equal("put of a fourth key", heap.put(0, 1, 1), true);
        CHECK.equal("entries", Snapshot.entries(heap, 0), "5=1 6=5 4=6 1=1");
    }

    private static void removeFromEachPlace() {
        String[] due = {"3=2 6=3 4=4", "5=1 6=3 4=4", "5=1 3=2 4=4", "5=1 3=2 6=3"};
        int[] keys = {5, 3, 6, 4};
        for (int i = 0; i < 4; i++) {
            EphemeronHeap heap = four();
            CHECK.equal("remove entry " + i, heap.remove(0, keys[i]), true);
            CHECK.equal("entries behind it", Snapshot.entries(heap, 0), due[i]);
            CHECK.equal("find of what has gone", heap.find(0, keys[i]), EphemeronHeap.NONE);
            CHECK.equal("remove again", heap.remove(0, keys[i]), false);
            CHECK.equal("entries behind that", Snapshot.entries(heap, 0), due[i]);
        }
        EphemeronHeap heap = seven();
        CHECK.equal("remove from an empty table", heap.remove(0, 3), false);
    }

    private static void keyEdges() {
        EphemeronHeap heap = seven();
        CHECK.refused("key(0, 0), empty", heap, IndexOutOfBoundsException.class, () -> heap.key(0, 0));
        heap.put(0, 5, 1);
        heap.put(0, 3, 2);
        CHECK.equal("key 0", heap.key(0, 0), 5);
        CHECK.equal("key 1", heap.key(0, 1), 3);
        for (int i : new int[] {-1, 2, 3, 4, 5, Integer.MIN_VALUE, Integer.MAX_VALUE}) {
            CHECK.thrown("key(0, " + i + ")", IndexOutOfBoundsException.class, () -> heap.key(0, i));
        }
        heap.remove(0, 5);
        CHECK.equal("key 0 after remove", heap.key(0, 0), 3);
        CHECK.refused("key(0, 1) after remove", heap, IndexOutOfBoundsException.class, () -> heap.key(0, 1));
        EphemeronHeap full = four();
        CHECK.equal("key 3", full.key(0, 3), 4);
        CHECK.refused("key(0, 4)", full, IndexOutOfBoundsException.class, () -> full.key(0, 4));
    }

    private static void tableHoldsItself() {
        EphemeronHeap heap = seven();
        CHECK.equal("put of itself", heap.put(0, 0, 0), true);
        CHECK.equal("entries", Snapshot.entries(heap, 0), "0=0");
        CHECK.equal("find of itself", heap.find(0, 0), 0);
        CHECK.equal("remove of itself", heap.remove(0, 0), true);
        CHECK.equal("entries", Snapshot.entries(heap, 0), "");
    }

    private static void tablesAreApart() {
        EphemeronHeap heap = new EphemeronHeap();
        for (int cell = 0; cell < 24; cell++) {
            heap.make(EphemeronHeap.TABLE);
        }
        for (int cell = 0; cell < 24; cell++) {
            for (int i = 0; i < 4; i++) {
                heap.put(cell, (cell + i) % 24, 23 - cell);
            }
        }
        for (int cell = 0; cell < 24; cell++) {
            int value = 23 - cell;
            CHECK.equal("entries of " + cell, Snapshot.entries(heap, cell), cell + "=" + value + " " + (cell + 1) % 24
                + "=" + value + " " + (cell + 2) % 24 + "=" + value + " " + (cell + 3) % 24 + "=" + value);
        }
    }

    private static void wrongCells() {
        for (int cell : NO_CELLS) {
            EphemeronHeap heap = seven();
            heap.put(0, 1, 1);
            Class<NoSuchElementException> due = NoSuchElementException.class;
            CHECK.refused("put(" + cell + ", 1, 1)", heap, due, () -> heap.put(cell, 1, 1));
            CHECK.thrown("put(0, " + cell + ", 1)", due, () -> heap.put(0, cell, 1));
            CHECK.thrown("put(0, 1, " + cell + ")", due, () -> heap.put(0, 1, cell));
            CHECK.thrown("find(" + cell + ", 1)", due, () -> heap.find(cell, 1));
            CHECK.thrown("find(0, " + cell + ")", due, () -> heap.find(0, cell));
            CHECK.thrown("remove(" + cell + ", 1)", due, () -> heap.remove(cell, 1));
            CHECK.refused("remove(0, " + cell + ")", heap, due, () -> heap.remove(0, cell));
            CHECK.thrown("key(" + cell + ", 0)", due, () -> heap.key(cell, 0));
            CHECK.equal("entries", Snapshot.entries(heap, 0), "1=1");
        }
    }

    private static void noTable() {
        EphemeronHeap heap = seven();
        Class<IllegalArgumentException> due = IllegalArgumentException.class;
        for (int cell = 1; cell < 3; cell++) {
            int c = cell;
            CHECK.refused("put into no table", heap, due, () -> heap.put(c, 0, 0));
            CHECK.thrown("find in no table", due, () -> heap.find(c, 0));
            CHECK.thrown("remove from no table", due, () -> heap.remove(c, 0));
            CHECK.thrown("key of no table", due, () -> heap.key(c, 0));
        }
    }

    private static void orderOfExceptions() {
        EphemeronHeap heap = seven();
        Class<NoSuchElementException> noThing = NoSuchElementException.class;
        CHECK.refused("put into no table, no key", heap, noThing, () -> heap.put(1, 9, 0));
        CHECK.thrown("put into no table, no value", noThing, () -> heap.put(1, 0, 9));
        CHECK.thrown("find in no table, no key", noThing, () -> heap.find(1, -1));
        CHECK.thrown("remove from no table, no key", noThing, () -> heap.remove(1, -1));
        CHECK.thrown("key of no cell, no entry", noThing, () -> heap.key(9, -1));
        CHECK.thrown("key of no table, no entry", IllegalArgumentException.class, () -> heap.key(1, -1));
        EphemeronHeap full = four();
        CHECK.refused("put into a full table, no key", full, noThing, () -> full.put(0, 9, 0));
        CHECK.refused("put into a full table, no value", full, noThing, () -> full.put(0, 1, 9));
    }
}
