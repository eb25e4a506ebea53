/** Promise 12: collect, without finalisers; what finalisers change is in FinaliserTest. */
public final class CollectTest {
    private static final Check CHECK = new Check();
    private static final int R = Heaps.R, W = Heaps.W, T = Heaps.T;

    public static void main(String[] args) {
        recordsHold();
        ringsDoNotHoldThemselves();
        longChainAgainstTheCells();
        weakDoesNotHold();
        weakOfLiveStays();
        tableHoldsValuesOfLiveKeys();
        tableDoesNotHoldKeys();
        valueThatHoldsItsKey();
        keyThatIsTheTable();
        chainOfEntries();
        chainOverTables();
        twoTablesWithOneKey();
        entriesGoInEachPlace();
        deadTableHoldsNothing();
        CHECK.finish();
    }

    private static void recordsHold() {
        EphemeronHeap heap = Heaps.of(R, R, R, R, R, R);
        heap.root(3, 2);
        heap.set(2, 0, 1);
        heap.set(2, 1, 4);
        heap.set(2, 2, 5);
        heap.set(4, 2, 2);
        CHECK.equal("freed", heap.collect(), 2);
        CHECK.equal("used", heap.used(), 2 + 4 + 16 + 32);
        CHECK.equal("field of a live record", heap.get(2, 1), 4);
        CHECK.equal("freed again", heap.collect(), 0);
    }

    private static void ringsDoNotHoldThemselves() {
        EphemeronHeap heap = Heaps.of(R, R, R, T);
        heap.set(0, 0, 1);
        heap.set(1, 1, 0);
        heap.set(2, 2, 2);
        heap.put(3, 3, 3);
        heap.put(3, 2, 0);
        CHECK.equal("freed", heap.collect(), 4);
        CHECK.equal("used", heap.used(), 0);
    }

    private static void longChainAgainstTheCells() {
        for (int kind = 0; kind < 2; kind++) {
            EphemeronHeap heap = new EphemeronHeap();
            for (int cell = 0; cell < 24; cell++) {
                heap.make(kind == 0 ? R : T);
            }
            heap.root(0, 23);
            for (int cell = 23; cell > 0; cell--) {
                if (kind == 0) {
                    heap.set(cell, cell % 3, cell - 1);
                } else {
                    heap.put(cell, 23, cell - 1);
                }
            }
            CHECK.equal("freed", heap.collect(), 0);
            CHECK.equal("used", heap.used(), (1 << 24) - 1);
            if (kind == 0) {
                heap.set(10, 1, -1);
            } else {
                heap.remove(10, 23);
            }
            CHECK.equal("freed of a cut chain", heap.collect(), 10);
            CHECK.equal("used of a cut chain", heap.used(), (1 << 24) - (1 << 10));
        }
    }

    private static void weakDoesNotHold() {
        EphemeronHeap heap = Heaps.of(W, R, W);
        heap.root(0, 0);
        heap.set(0, 0, 1);
        heap.set(2, 0, 0);
        CHECK.equal("freed", heap.collect(), 2);
        CHECK.equal("referent", heap.get(0, 0), -1);
        heap.make(R);
        CHECK.equal("referent once the cell is used again", heap.get(0, 0), -1);
    }

    private static void weakOfLiveStays() {
        EphemeronHeap heap = Heaps.of(W, R, R, W);
        heap.root(0, 0);
        heap.root(1, 1);
        heap.set(1, 2, 2);
        heap.set(2, 0, 3);
        heap.set(0, 0, 2);
        heap.set(3, 0, 3);
        CHECK.equal("freed", heap.collect(), 0);
        CHECK.equal("referent", heap.get(0, 0), 2);
        CHECK.equal("referent that is itself", heap.get(3, 0), 3);
        heap.set(1, 2, -1);
        CHECK.equal("freed later", heap.collect(), 2);
        CHECK.equal("referent later", heap.get(0, 0), -1);
    }

    private static void tableHoldsValuesOfLiveKeys() {
        EphemeronHeap heap = Heaps.of(T, R, R, R, R);
        heap.root(0, 0);
        heap.root(1, 1);
        heap.put(0, 1, 2);
        heap.put(0, 3, 4);
        CHECK.equal("freed", heap.collect(), 2);
        CHECK.equal("entries", Snapshot.entries(heap, 0), "1=2");
        heap.root(1, -1);
        CHECK.equal("freed without the key", heap.collect(), 2);
        CHECK.equal("entries without the key", Snapshot.entries(heap, 0), "");
    }

    private static void tableDoesNotHoldKeys() {
        EphemeronHeap heap = Heaps.of(T, R, R);
        heap.root(0, 0);
        heap.root(1, 2);
        heap.put(0, 1, 2);
        CHECK.equal("freed", heap.collect(), 1);
        CHECK.equal("a live value does not hold the entry", Snapshot.entries(heap, 0), "");
        CHECK.equal("used", heap.used(), 1 + 4);
    }

    private static void valueThatHoldsItsKey() {
        EphemeronHeap heap = Heaps.of(T, R, R);
        heap.root(0, 0);
        heap.put(0, 1, 2);
        heap.set(2, 0, 1);
        CHECK.equal("freed", heap.collect(), 2);
        CHECK.equal("entries", Snapshot.entries(heap, 0), "");
        heap = Heaps.of(T, R);
        heap.root(0, 0);
        heap.put(0, 1, 1);
        CHECK.equal("freed, a key that is its value", heap.collect(), 1);
    }

    private static void keyThatIsTheTable() {
        EphemeronHeap heap = Heaps.of(T, R);
        heap.root(0, 0);
        heap.put(0, 0, 1);
        CHECK.equal("freed", heap.collect(), 0);
        CHECK.equal("entries", Snapshot.entries(heap, 0), "0=1");
    }

    private static void chainOfEntries() {
        EphemeronHeap heap = Heaps.of(T, R, R, R, R, R);
        heap.root(0, 0);
        heap.root(1, 5);
        heap.put(0, 2, 1);
        heap.put(0, 3, 2);
        heap.put(0, 4, 3);
        heap.put(0, 5, 4);
        CHECK.equal("freed", heap.collect(), 0);
        CHECK.equal("entries", Snapshot.entries(heap, 0), "2=1 3=2 4=3 5=4");
        heap.remove(0, 4);
        CHECK.equal("freed of a cut chain", heap.collect(), 3);
        CHECK.equal("entries of a cut chain", Snapshot.entries(heap, 0), "5=4");
    }

    private static void chainOverTables() {
        EphemeronHeap heap = Heaps.of(R, T, T, T, R, R);
        heap.root(0, 0);
        heap.set(0, 0, 3);
        heap.put(3, 0, 2);
        heap.put(2, 3, 1);
        heap.put(1, 2, 4);
        heap.put(1, 5, 0);
        CHECK.equal("freed", heap.collect(), 1);
        CHECK.equal("used", heap.used(), 31);
        CHECK.equal("entries", Snapshot.entries(heap, 1), "2=4");
    }

    private static void twoTablesWithOneKey() {
        EphemeronHeap heap = Heaps.of(T, T, R, R, R);
        heap.root(0, 0);
        heap.root(1, 1);
        heap.put(0, 2, 3);
        heap.put(1, 2, 4);
        heap.put(1, 3, 2);
        CHECK.equal("freed", heap.collect(), 3);
        CHECK.equal("entries of the first", Snapshot.entries(heap, 0), "");
        CHECK.equal("entries of the second", Snapshot.entries(heap, 1), "");
    }

    private static void entriesGoInEachPlace() {
        for (int live = 0; live < 16; live++) {
            EphemeronHeap heap = Heaps.of(T, R, R, R, R, R);
            heap.root(5, 0);
            StringBuilder due = new StringBuilder();
            for (int i = 0; i < 4; i++) {
                heap.put(0, 4 - i, 5);
                if ((live >> i & 1) != 0) {
                    heap.root(i, 4 - i);
                    due.append(due.length() == 0 ? "" : " ").append(4 - i).append("=5");
                }
            }
            int freed = 4 - Integer.bitCount(live) + (live == 0 ? 1 : 0);
            CHECK.equal("freed, live " + live, heap.collect(), freed);
            CHECK.equal("entries, live " + live, Snapshot.entries(heap, 0), due.toString());
        }
    }

    private static void deadTableHoldsNothing() {
        EphemeronHeap heap = Heaps.of(T, R, R);
        heap.root(0, 1);
        heap.put(0, 1, 2);
        CHECK.equal("freed", heap.collect(), 2);
        CHECK.equal("used", heap.used(), 2);
    }
}
