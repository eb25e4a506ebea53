import java.util.NoSuchElementException;

/** Promises 11, 13, 14 and 16: guard, run, queued and kind; and steps 2 and 3 of a collection. */
public final class FinaliserTest {
    private static final Check CHECK = new Check();
    private static final int R = Heaps.R, W = Heaps.W, T = Heaps.T;

    public static void main(String[] args) {
        states();
        liveThingsAreNotQueued();
        queueInTheOrderOfCells();
        queueIsFirstInFirstOut();
        queuedOnce();
        rootedThingStaysInTheQueue();
        queueKeeps();
        weakAndQueuedThings();
        tablesAndQueuedThings();
        queuedTableKeepsEntriesOfKeptKeys();
        liveTableLosesBeforeKept();
        actionNothing();
        actionRootThing();
        actionRootField();
        actionEmpty();
        broughtBackAndLostAgain();
        wrongGuards();
        orderOfGuardExceptions();
        wrongRuns();
        CHECK.finish();
    }

    private static void states() {
        for (int kind = 0; kind < 3; kind++) {
            EphemeronHeap heap = Heaps.of(kind);
            CHECK.equal("no finaliser", heap.kind(0), kind);
            heap.guard(0, 1, 5);
            CHECK.equal("waiting", heap.kind(0), kind + 4);
            CHECK.equal("nothing queued yet", heap.queued(), 0);
            CHECK.equal("freed", heap.collect(), 0);
            CHECK.equal("queued", heap.kind(0), kind + 8);
            CHECK.equal("queue", heap.queued(), 1);
            CHECK.equal("run", heap.run(), 0);
            CHECK.equal("done", heap.kind(0), kind + 12);
            CHECK.equal("queue behind it", heap.queued(), 0);
        }
    }

    private static void liveThingsAreNotQueued() {
        EphemeronHeap heap = Heaps.of(R, R, T, R);
        heap.root(0, 0);
        heap.set(0, 1, 1);
        heap.set(0, 2, 2);
        heap.put(2, 1, 3);
        for (int cell = 0; cell < 4; cell++) {
            heap.guard(cell, 0, 0);
        }
        heap.collect();
        CHECK.equal("queued", heap.queued(), 0);
        CHECK.equal("kind", heap.kind(3), R + 4);
        heap.set(0, 1, -1);
        heap.collect();
        CHECK.equal("queued without the key", heap.queued(), 2);
        CHECK.equal("first", heap.run(), 1);
        CHECK.equal("second", heap.run(), 3);
    }

    private static void queueInTheOrderOfCells() {
        EphemeronHeap heap = Heaps.of(R, W, T, R, W, T);
        for (int cell : new int[] {4, 0, 5, 2}) {
            heap.guard(cell, 0, 0);
        }
        CHECK.equal("freed", heap.collect(), 2);
        CHECK.equal("queued", heap.queued(), 4);
        for (int cell : new int[] {0, 2, 4, 5}) {
            CHECK.equal("run", heap.run(), cell);
        }
    }

    private static void queueIsFirstInFirstOut() {
        EphemeronHeap heap = Heaps.of(R, R, R, R, R);
        heap.guard(3, 0, 0);
        heap.guard(4, 0, 0);
        heap.root(0, 1);
        heap.guard(1, 0, 0);
        heap.collect();
        heap.root(0, -1);
        heap.collect();
        CHECK.equal("queued", heap.queued(), 3);
        CHECK.equal("first", heap.run(), 3);
        CHECK.equal("new in cell 0", heap.make(R), 0);
        heap.guard(0, 0, 0);
        heap.collect();
        CHECK.equal("second", heap.run(), 4);
        CHECK.equal("third", heap.run(), 1);
        CHECK.equal("fourth", heap.run(), 0);
        CHECK.equal("queue", heap.queued(), 0);
    }

    private static void queuedOnce() {
        EphemeronHeap heap = Heaps.of(R);
        heap.guard(0, 0, 0);
        for (int i = 0; i < 3; i++) {
            CHECK.equal("freed while queued", heap.collect(), 0);
            CHECK.equal("queued", heap.queued(), 1);
        }
        heap.run();
        CHECK.equal("freed once done", heap.collect(), 1);
        CHECK.equal("queued once done", heap.queued(), 0);
    }

    private static void rootedThingStaysInTheQueue() {
        EphemeronHeap heap = Heaps.of(R);
        heap.guard(0, 0, 0);
        heap.collect();
        heap.root(2, 0);
        CHECK.equal("freed", heap.collect(), 0);
        CHECK.equal("queued", heap.queued(), 1);
        CHECK.equal("kind", heap.kind(0), R + 8);
        CHECK.equal("run", heap.run(), 0);
        CHECK.equal("freed once done", heap.collect(), 0);
    }

    private static void queueKeeps() {
        EphemeronHeap heap = Heaps.of(R, R, R, R, T, R, R);
        heap.guard(1, 0, 0);
        heap.set(1, 0, 2);
        heap.set(1, 2, 4);
        heap.put(4, 2, 5);
        heap.put(4, 3, 6);
        CHECK.equal("freed", heap.collect(), 3);
        CHECK.equal("used", heap.used(), 2 + 4 + 16 + 32);
        CHECK.equal("kept table", Snapshot.entries(heap, 4), "2=5");
        CHECK.equal("freed while queued", heap.collect(), 0);
        heap.run();
        CHECK.equal("freed once done", heap.collect(), 4);
    }

    private static void weakAndQueuedThings() {
        EphemeronHeap heap = Heaps.of(W, R, R, W, W, R);
        heap.root(0, 0);
        heap.guard(1, 1, 1);
        heap.set(0, 0, 1);
        heap.set(1, 0, 3);
        heap.set(1, 1, 4);
        heap.set(3, 0, 1);
        heap.set(4, 0, 5);
        CHECK.equal("freed", heap.collect(), 2);
        CHECK.equal("a live one loses a referent that is but kept", heap.get(0, 0), -1);
        CHECK.equal("a kept one does not", heap.get(3, 0), 1);
        CHECK.equal("a kept one loses a referent that is freed", heap.get(4, 0), -1);
        heap.set(0, 0, 1);
        heap.collect();
        CHECK.equal("lost again while it is but queued", heap.get(0, 0), -1);
        heap.run();
        heap.set(0, 0, 1);
        heap.collect();
        CHECK.equal("not lost once it is brought back", heap.get(0, 0), 1);
    }

    private static void tablesAndQueuedThings() {
        EphemeronHeap heap = Heaps.of(T, R, R, R);
        heap.root(0, 0);
        heap.root(1, 3);
        heap.put(0, 1, 2);
        heap.put(0, 3, 3);
        heap.guard(1, 1, 1);
        CHECK.equal("freed", heap.collect(), 1);
        CHECK.equal("a live table loses a key that is but kept", Snapshot.entries(heap, 0), "3=3");
        CHECK.equal("used", heap.used(), 1 + 2 + 8);
    }

    private static void queuedTableKeepsEntriesOfKeptKeys() {
        EphemeronHeap heap = Heaps.of(T, R, R, R, R, R, R);
        heap.guard(0, 1, 0);
        heap.guard(1, 0, 0);
        heap.root(3, 3);
        heap.put(0, 5, 6);
        heap.put(0, 1, 2);
        heap.put(0, 3, 4);
        CHECK.equal("freed", heap.collect(), 2);
        CHECK.equal("entries", Snapshot.entries(heap, 0), "1=2 3=4");
        heap.run();
        CHECK.equal("a table brought back", heap.rootAt(0), 0);
        heap.collect();
        CHECK.equal("loses a key that is but kept", Snapshot.entries(heap, 0), "3=4");
        CHECK.equal("used", heap.used(), 1 + 2 + 8 + 16);
    }

    private static void liveTableLosesBeforeKept() {
        EphemeronHeap heap = Heaps.of(R, T, R, R);
        heap.root(0, 1);
        heap.put(1, 0, 2);
        heap.put(1, 2, 3);
        heap.guard(0, 0, 0);
        heap.guard(3, 0, 0);
        heap.set(3, 0, 0);
        CHECK.equal("freed", heap.collect(), 1);
        CHECK.equal("used", heap.used(), 1 + 2 + 8);
        CHECK.equal("entries", Snapshot.entries(heap, 1), "");
    }

    private static EphemeronHeap acted(int kind, int action, int r) {
        EphemeronHeap heap = Heaps.of(R, kind, R, R);
        heap.root(4, 0);
        heap.root(r, 0);
        if (kind == T) {
            heap.put(1, 0, 2);
            heap.put(1, 2, 3);
        } else {
            heap.set(1, 0, 0);
        }
        if (kind == R) {
            heap.set(1, 1, 2);
            heap.set(1, 2, 3);
        }
        heap.guard(1, action, r);
        heap.collect();
        CHECK.equal("run", heap.run(), 1);
        CHECK.equal("done", heap.kind(1), kind + 12);
        return heap;
    }

    private static String contents(EphemeronHeap heap, int kind) {
        if (kind == T) {
            return Snapshot.entries(heap, 1);
        }
        return kind == W ? "" + heap.get(1, 0) : heap.get(1, 0) + " " + heap.get(1, 1) + " " + heap.get(1, 2);
    }

    private static final String[] FULL = {"0 2 3", "0", "0=2 2=3"};

    private static void actionNothing() {
        for (int kind = 0; kind < 3; kind++) {
            EphemeronHeap heap = acted(kind, 0, 3);
            CHECK.equal("root", heap.rootAt(3), 0);
            CHECK.equal("contents", contents(heap, kind), FULL[kind]);
        }
    }

    private static void actionRootThing() {
        for (int kind = 0; kind < 3; kind++) {
            for (int r = 0; r < 6; r++) {
                EphemeronHeap heap = acted(kind, 1, r);
                for (int other = 0; other < 6; other++) {
                    CHECK.equal("root " + other, heap.rootAt(other), other == r ? 1 : other == 4 ? 0 : -1);
                }
                CHECK.equal("contents", contents(heap, kind), FULL[kind]);
            }
        }
    }

    private static void actionRootField() {
        EphemeronHeap heap = Heaps.of(R, R, R);
        heap.guard(0, 2, 5);
        heap.set(0, 0, 1);
        heap.set(0, 1, 2);
        heap.collect();
        heap.run();
        CHECK.equal("root", heap.rootAt(5), 1);
        CHECK.equal("field", heap.get(0, 0), 1);
        CHECK.equal("freed", heap.collect(), 2);
        CHECK.equal("used", heap.used(), 2);
        EphemeronHeap none = Heaps.of(R, R);
        none.root(5, 1);
        none.guard(0, 2, 5);
        none.collect();
        none.run();
        CHECK.equal("root, from an empty field", none.rootAt(5), -1);
        CHECK.equal("root, from a weak reference", acted(W, 2, 3).rootAt(3), 0);
        CHECK.equal("root, from a table", acted(T, 2, 3).rootAt(3), 0);
    }

    private static void actionEmpty() {
        String[] empty = {"-1 -1 -1", "-1", ""};
        for (int kind = 0; kind < 3; kind++) {
            EphemeronHeap heap = acted(kind, 3, 3);
            CHECK.equal("root", heap.rootAt(3), 0);
            CHECK.equal("contents", contents(heap, kind), empty[kind]);
        }
    }

    private static void broughtBackAndLostAgain() {
        EphemeronHeap heap = Heaps.of(R, R);
        heap.guard(0, 1, 2);
        heap.set(0, 2, 1);
        heap.collect();
        heap.run();
        CHECK.equal("freed once it is back", heap.collect(), 0);
        CHECK.equal("kind", heap.kind(0), R + 12);
        CHECK.equal("queued", heap.queued(), 0);
        heap.root(2, -1);
        CHECK.equal("freed once it is lost again", heap.collect(), 2);
        CHECK.equal("queued then", heap.queued(), 0);
    }

    private static void wrongGuards() {
        EphemeronHeap heap = Heaps.of(R, W);
        for (int cell : new int[] {-1, -2, 2, 23, 24, 32, -32, Integer.MIN_VALUE, Integer.MAX_VALUE}) {
            CHECK.thrown("guard(" + cell + ", 0, 0)", NoSuchElementException.class, () -> heap.guard(cell, 0, 0));
        }
        for (int action : new int[] {-1, 4, 5, Integer.MIN_VALUE, Integer.MAX_VALUE}) {
            CHECK.thrown("guard(0, " + action + ", 0)", IllegalArgumentException.class, () -> heap.guard(0, action, 0));
        }
        for (int r : new int[] {-1, 6, 7, Integer.MIN_VALUE, Integer.MAX_VALUE}) {
            CHECK.thrown("guard(0, 0, " + r + ")", IndexOutOfBoundsException.class, () -> heap.guard(0, 0, r));
        }
        CHECK.refused("guard(2, 0, 0)", heap, NoSuchElementException.class, () -> heap.guard(2, 0, 0));
        CHECK.refused("guard(0, 4, 0)", heap, IllegalArgumentException.class, () -> heap.guard(0, 4, 0));
        CHECK.refused("guard(0, 0, 6)", heap, IndexOutOfBoundsException.class, () -> heap.guard(0, 0, 6));
        heap.guard(0, 1, 3);
        CHECK.refused("guard while waiting", heap, IllegalStateException.class, () -> heap.guard(0, 0, 0));
        heap.collect();
        CHECK.refused("guard while queued", heap, IllegalStateException.class, () -> heap.guard(0, 3, 1));
        heap.run();
        CHECK.equal("the first finaliser counts", heap.rootAt(3), 0);
        CHECK.refused("guard when done", heap, IllegalStateException.class, () -> heap.guard(0, 0, 0));
    }

    private static void orderOfGuardExceptions() {
        EphemeronHeap heap = Heaps.of(R);
        heap.guard(0, 0, 0);
        CHECK.refused("guard(1, 4, 6)", heap, NoSuchElementException.class, () -> heap.guard(1, 4, 6));
        CHECK.refused("guard(1, 0, 6)", heap, NoSuchElementException.class, () -> heap.guard(1, 0, 6));
        CHECK.refused("guard(0, 4, 6)", heap, IllegalArgumentException.class, () -> heap.guard(0, 4, 6));
        CHECK.refused("guard(0, 4, 0)", heap, IllegalArgumentException.class, () -> heap.guard(0, 4, 0));
        CHECK.refused("guard(0, 0, 6)", heap, IndexOutOfBoundsException.class, () -> heap.guard(0, 0, 6));
        CHECK.refused("guard(0, 0, -1)", heap, IndexOutOfBoundsException.class, () -> heap.guard(0, 0, -1));
    }

    private static void wrongRuns() {
        EphemeronHeap heap = Heaps.of(R, R);
        CHECK.refused("run without finalisers", heap, NoSuchElementException.class, heap::run);
        heap.guard(0, 1, 0);
        CHECK.refused("run while it waits", heap, NoSuchElementException.class, heap::run);
        heap.collect();
        heap.run();
        CHECK.refused("run of an empty queue", heap, NoSuchElementException.class, heap::run);
    }
}
