import java.util.NoSuchElementException;

/** Promises 2, 15, 17 and 18: make, used, serial, collections; and kind (16) of things without a finaliser. */
public final class MakeTest {
    private static final Check CHECK = new Check();
    private static final int ALL = Heaps.ALL;

    public static void main(String[] args) {
        leastFreeCell();
        newThingIsEmpty();
        wrongKind();
        wrongKindDoesNotCollect();
        fullHeapCollects();
        fullHeapOfLiveThings();
        fullHeapOfGuardedThings();
        cellIsUsedAgainAfresh();
        serialsGoOn();
        collectionsAreCounted();
        wrongCells();
        CHECK.finish();
    }

    private static void leastFreeCell() {
        EphemeronHeap heap = new EphemeronHeap();
        for (int i = 0; i < 24; i++) {
            CHECK.equal("make number " + i, heap.make(i % 3), i);
            CHECK.equal("kind of " + i, heap.kind(i), i % 3);
            CHECK.equal("serial of " + i, heap.serial(i), i + 1);
            CHECK.equal("used after " + i, heap.used(), (1 << (i + 1)) - 1);
        }
        CHECK.equal("making into free cells does not collect", heap.collections(), 0);
        heap = new EphemeronHeap();
        for (int i = 0; i < 6; i++) {
            heap.make(EphemeronHeap.RECORD);
        }
        heap.root(0, 0);
        heap.root(1, 2);
        heap.root(2, 5);
        CHECK.equal("freed between", heap.collect(), 3);
        CHECK.equal("used with gaps", heap.used(), 1 + 4 + 32);
        CHECK.equal("first gap", heap.make(EphemeronHeap.WEAK), 1);
        CHECK.equal("second gap", heap.make(EphemeronHeap.WEAK), 3);
        CHECK.equal("third gap", heap.make(EphemeronHeap.WEAK), 4);
        CHECK.equal("behind the gaps", heap.make(EphemeronHeap.WEAK), 6);
    }

    private static void newThingIsEmpty() {
        EphemeronHeap heap = new EphemeronHeap();
        heap.make(EphemeronHeap.RECORD);
        heap.make(EphemeronHeap.WEAK);
        heap.make(EphemeronHeap.TABLE);
        CHECK.equal("new things", Snapshot.of(heap), "collections 0 queued 0 roots -1 -1 -1 -1 -1 -1"
            + "; 0: kind 0 serial 1 -1 -1 -1; 1: kind 1 serial 2 -1; 2: kind 2 serial 3 {}");
    }

    private static void wrongKind() {
        for (int kind : new int[] {-1, 3, 4, 24, Integer.MIN_VALUE, Integer.MAX_VALUE}) {
            EphemeronHeap heap = Heaps.chain(2);
            CHECK.refused("make(" + kind + ")", heap, IllegalArgumentException.class, () -> heap.make(kind));
            CHECK.equal("cell after make(" + kind + ")", heap.make(EphemeronHeap.RECORD), 2);
            CHECK.equal("serial after make(" + kind + ")", heap.serial(2), 3);
        }
    }

    private static void wrongKindDoesNotCollect() {
        EphemeronHeap heap = new EphemeronHeap();
        for (int i = 0; i < 24; i++) {
            heap.make(EphemeronHeap.RECORD);
        }
        CHECK.refused("make(3) in a full heap", heap, IllegalArgumentException.class, () -> heap.make(3));
        EphemeronHeap live = Heaps.chain(24);
        CHECK.refused("make(3) in a full live heap", live, IllegalArgumentException.class, () -> live.make(3));
    }

    private static void fullHeapCollects() {
        EphemeronHeap heap = Heaps.chain(24);
        heap.set(9, 2, EphemeronHeap.NONE);
        CHECK.equal("make in a full heap", heap.make(EphemeronHeap.TABLE), 10);
        CHECK.equal("collected by make", heap.collections(), 1);
        CHECK.equal("used after that", heap.used(), (1 << 11) - 1);
        CHECK.equal("serial after that", heap.serial(10), 25);
        CHECK.equal("kind after that", heap.kind(10), EphemeronHeap.TABLE);
        CHECK.equal("make again", heap.make(EphemeronHeap.TABLE), 11);
        CHECK.equal("not collected again", heap.collections(), 1);
    }

    private static void fullHeapOfLiveThings() {
        EphemeronHeap heap = Heaps.chain(24);
        CHECK.thrown("make without room", IllegalStateException.class, () -> heap.make(EphemeronHeap.RECORD));
        CHECK.equal("but it has been collected", heap.collections(), 1);
        CHECK.equal("all is kept", heap.used(), ALL);
        CHECK.thrown("make without room again", IllegalStateException.class, () -> heap.make(EphemeronHeap.WEAK));
        CHECK.equal("and collected again", heap.collections(), 2);
        heap.set(22, 2, EphemeronHeap.NONE);
        CHECK.equal("make with room", heap.make(EphemeronHeap.RECORD), 23);
        CHECK.equal("a make that throws takes no serial number", heap.serial(23), 25);
    }

    private static void fullHeapOfGuardedThings() {
        EphemeronHeap heap = new EphemeronHeap();
        for (int i = 0; i < 24; i++) {
            heap.guard(heap.make(EphemeronHeap.WEAK), 0, 0);
        }
        CHECK.thrown("make while all are queued", IllegalStateException.class, () -> heap.make(0));
        CHECK.equal("the collection before the exception queues", heap.queued(), 24);
        CHECK.equal("state behind it", heap.kind(23), EphemeronHeap.WEAK + 8);
        CHECK.equal("run", heap.run(), 0);
        CHECK.equal("run", heap.run(), 1);
        CHECK.equal("make after two runs", heap.make(0), 0);
        CHECK.equal("used", heap.used(), ALL - 2);
    }

    private static void cellIsUsedAgainAfresh() {
        for (int old = 0; old < 3; old++) {
            for (int kind = 0; kind < 3; kind++) {
                EphemeronHeap heap = new EphemeronHeap();
                heap.root(0, heap.make(EphemeronHeap.RECORD));
                heap.make(old);
                fill(heap, 1, old);
                heap.guard(1, 0, 5);
                heap.collect();
                heap.run();
                CHECK.equal("freed", heap.collect(), 1);
                CHECK.equal("cell used again", heap.make(kind), 1);
                String contents = kind == EphemeronHeap.TABLE ? " {}" : kind == EphemeronHeap.WEAK ? " -1" : " -1 -1 -1";
                CHECK.equal("kind " + kind + " in a cell of kind " + old, Snapshot.of(heap),
                    "collections 2 queued 0 roots 0 -1 -1 -1 -1 -1; 0: kind 0 serial 1 -1 -1 -1; 1: kind "
                    + kind + " serial 3" + contents);
                heap.guard(1, 1, 4);
                heap.collect();
                heap.run();
                CHECK.equal("the new finaliser acts", heap.rootAt(4), 1);
            }
        }
    }

    private static void fill(EphemeronHeap heap, int cell, int kind) {
        if (kind == EphemeronHeap.TABLE) {
            heap.put(cell, 0, 0);
            heap.put(cell, 1, 0);
        } else {
            for (int f = 0; f < (kind == EphemeronHeap.RECORD ? 3 : 1); f++) {
                heap.set(cell, f, 0);
            }
        }
    }

    private static void serialsGoOn() {
        EphemeronHeap heap = new EphemeronHeap();
        for (int i = 1; i <= 100; i++) {
            int cell = heap.make(EphemeronHeap.RECORD);
            CHECK.equal("serial of make " + i, heap.serial(cell), i);
            CHECK.equal("cell of make " + i, cell, (i - 1) % 24);
        }
        CHECK.equal("collections by 100 makes", heap.collections(), 4);
    }

    private static void collectionsAreCounted() {
        EphemeronHeap heap = new EphemeronHeap();
        for (int i = 1; i <= 5; i++) {
            CHECK.equal("nothing to free", heap.collect(), 0);
            CHECK.equal("collections", heap.collections(), i);
        }
    }

    private static void wrongCells() {
        EphemeronHeap heap = Heaps.chain(3);
        for (int cell : new int[] {-1, -2, 3, 23, 24, 25, 32, 64, -32, Integer.MIN_VALUE, Integer.MAX_VALUE}) {
            CHECK.thrown("serial(" + cell + ")", NoSuchElementException.class, () -> heap.serial(cell));
            CHECK.thrown("kind(" + cell + ")", NoSuchElementException.class, () -> heap.kind(cell));
        }
        CHECK.refused("serial(3)", heap, NoSuchElementException.class, () -> heap.serial(3));
        CHECK.refused("kind(3)", heap, NoSuchElementException.class, () -> heap.kind(3));
        heap.root(0, EphemeronHeap.NONE);
        heap.collect();
        CHECK.thrown("serial of a freed cell", NoSuchElementException.class, () -> heap.serial(0));
        CHECK.thrown("kind of a freed cell", NoSuchElementException.class, () -> heap.kind(0));
    }
}
