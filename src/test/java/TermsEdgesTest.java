import java.util.NoSuchElementException;

/** The edges that the section 'Terms' names before 'to collect': a method for each sentence, which is told above it. */
public final class TermsEdgesTest {
    private static final Check CHECK = new Check();
    private static final int R = Heaps.R, W = Heaps.W, T = Heaps.T, NONE = Heaps.NONE;
    private static final int[] FAR = {Integer.MIN_VALUE, -33, -32, -24, -2, 24, 25, 31, 32, 33, 56, Integer.MAX_VALUE};

    public static void main(String[] args) {
        cellsAre0To23();
        noneIsNoCell();
        cellThatNeverHadAThing();
        cellThatHasNoneAnyMore();
        recordHasFields0To2();
        fieldsAreNoneAtFirst();
        weakHasField0();
        tableHasNoField();
        tableHasAtMost4Entries();
        entriesInTheOrderOfTheirKeys();
        noTwoWithTheSameKey();
        keyAndValueAreThings();
        serialsFrom1On();
        rootsAre0To5();
        rootsAreNoneAtFirst();
        waitingAtFirstLaterQueuedLaterDone();
        queueFirstInFirstOut();
        queueHoldsEveryCell();
        queueGoesRound();
        noneIsMinus1();
        CHECK.finish();
    }

    /** A table in cell 0, records in all other cells. */
    private static EphemeronHeap fullHeap() {
        EphemeronHeap heap = Heaps.of(T);
        for (int cell = 1; cell < 24; cell++) {
            heap.make(R);
        }
        return heap;
    }

    private static void refuseAll(String what, EphemeronHeap heap, int cell) {
        String before = Snapshot.of(heap);
        for (CellCalls call : CellCalls.values()) {
            if (cell != NONE || !call.takesNone()) {
                CHECK.thrown(what + ": " + call.text(cell), NoSuchElementException.class, () -> call.on(heap, cell));
            }
        }
        CHECK.equal(what + ": all of it as it was", Snapshot.of(heap), before);
    }

    /** "There are the CELLS 0 .. 23." "NoSuchElementException for ... numbers that are no cell." */
    private static void cellsAre0To23() {
        EphemeronHeap heap = fullHeap();
        for (int cell : new int[] {1, 22, 23}) {
            heap.set(cell, 2, cell);
            CHECK.equal("field of " + cell, heap.get(cell, 2), cell);
            CHECK.equal("put of " + cell, heap.put(0, cell, cell), true);
            CHECK.equal("find of " + cell, heap.find(0, cell), cell);
            heap.root(0, cell);
            CHECK.equal("root of " + cell, heap.rootAt(0), cell);
            heap.guard(cell, 0, 0);
            CHECK.equal("kind of " + cell, heap.kind(cell), R + 4);
            CHECK.equal("serial of " + cell, heap.serial(cell), cell + 1);
        }
        heap.set(23, 0, 0);
        CHECK.equal("cell 0 in a field", heap.get(23, 0), 0);
        CHECK.equal("remove of 23", heap.remove(0, 23), true);
        for (int cell : FAR) {
            refuseAll("no cell, all cells full", fullHeap(), cell);
        }
    }

    /** "NoSuchElementException for ... numbers that are no cell": -1 is one but where it stands for none. */
    private static void noneIsNoCell() {
        refuseAll("none, all cells full", fullHeap(), NONE);
        refuseAll("none, two cells full", Heaps.of(T, R), NONE);
        EphemeronHeap heap = Heaps.of(T, R);
        CellCalls.SET_TO.on(heap, NONE);
        CellCalls.ROOT.on(heap, NONE);
        CHECK.equal("field", heap.get(1, 0), NONE);
        CHECK.equal("root", heap.rootAt(0), NONE);
    }

    /** "In a cell there is a THING, or none." "NoSuchElementException for cells without a thing." */
    private static void cellThatNeverHadAThing() {
        for (int cell = 2; cell < 24; cell++) {
            refuseAll("a cell without a thing", Heaps.of(T, R), cell);
        }
    }

    /** "Each thing that is not kept is FREED: its cell has none any more." */
    private static void cellThatHasNoneAnyMore() {
        for (int cell : new int[] {2, 3, 4, 23}) {
            EphemeronHeap heap = fullHeap();
            for (int c = 2; c < 5; c++) {
                heap.set(c, 0, 23);
            }
            heap.root(1, 0);
            heap.root(2, 1);
            CHECK.equal("freed", heap.collect(), 22);
            refuseAll("a freed cell", heap, cell);
        }
    }

    /** "a RECORD with the FIELDS 0, 1, 2" */
    private static void recordHasFields0To2() {
        EphemeronHeap heap = Heaps.of(R, R, R, R);
        for (int f = 0; f < 3; f++) {
            heap.set(0, f, f + 1);
        }
        for (int f = 0; f < 3; f++) {
            CHECK.equal("field " + f, heap.get(0, f), f + 1);
        }
        refuseFields(heap, 0, -1, 3);
        CHECK.equal("the record before is apart", heap.get(0, 2), 3);
        CHECK.equal("the record behind is apart", heap.get(1, 0), NONE);
    }

    /** "each a thing or none (none at first)" */
    private static void fieldsAreNoneAtFirst() {
        EphemeronHeap heap = Heaps.of(R, W);
        for (int f = 0; f < 3; f++) {
            CHECK.equal("field " + f + " at first", heap.get(0, f), NONE);
            heap.set(0, f, 0);
            heap.set(0, f, NONE);
            CHECK.equal("field " + f + " none again", heap.get(0, f), NONE);
        }
        CHECK.equal("referent at first", heap.get(1, 0), NONE);
    }

    /** "a WEAK reference with the field 0" */
    private static void weakHasField0() {
        EphemeronHeap heap = Heaps.of(W, W, R);
        heap.set(0, 0, 2);
        CHECK.equal("referent", heap.get(0, 0), 2);
        CHECK.equal("the next one is apart", heap.get(1, 0), NONE);
        refuseFields(heap, 0, -1, 1);
        refuseFields(heap, 0, -2, 2);
    }

    /** "(a table has none)" */
    private static void tableHasNoField() {
        EphemeronHeap heap = Heaps.fullTable();
        refuseFields(heap, 0, -1, 0);
        refuseFields(heap, 0, 1, 2);
    }

    private static void refuseFields(EphemeronHeap heap, int cell, int small, int large) {
        String before = Snapshot.of(heap);
        for (int f : new int[] {small, large, Integer.MIN_VALUE, Integer.MAX_VALUE}) {
            Class<IllegalArgumentException> due = IllegalArgumentException.class;
            CHECK.thrown("get(" + cell + ", " + f + ")", due, () -> heap.get(cell, f));
            CHECK.thrown("set(" + cell + ", " + f + ", 0)", due, () -> heap.set(cell, f, 0));
            CHECK.thrown("set(" + cell + ", " + f + ", -1)", due, () -> heap.set(cell, f, NONE));
        }
        CHECK.equal("all of it as it was", Snapshot.of(heap), before);
    }

    /** "a TABLE with at most 4 ENTRIES" */
    private static void tableHasAtMost4Entries() {
        EphemeronHeap heap = Heaps.fullTable();
        CHECK.equal("the fourth entry", heap.key(0, 3), 4);
        CHECK.refused("the fifth", heap, IllegalStateException.class, () -> heap.put(0, 5, 6));
        CHECK.refused("itself as the fifth", heap, IllegalStateException.class, () -> heap.put(0, 0, 0));
        CHECK.equal("entries", Snapshot.entries(heap, 0), "1=6 2=6 3=6 4=6");
    }

    /** "in the order in which their keys came" */
    private static void entriesInTheOrderOfTheirKeys() {
        EphemeronHeap heap = Heaps.of(T, R, R, R, R);
        for (int key : new int[] {4, 1, 3, 2}) {
            heap.put(0, key, 0);
        }
        heap.put(0, 1, 4);
        CHECK.equal("a new value moves no key", Snapshot.entries(heap, 0), "4=0 1=4 3=0 2=0");
        heap.remove(0, 4);
        heap.put(0, 4, 1);
        CHECK.equal("a key that came again is last", Snapshot.entries(heap, 0), "1=4 3=0 2=0 4=1");
    }

    /** "no two with the same key" */
    private static void noTwoWithTheSameKey() {
        EphemeronHeap heap = Heaps.of(T, R, R);
        CHECK.equal("first put", heap.put(0, 1, 1), true);
        CHECK.equal("second put", heap.put(0, 1, 2), false);
        CHECK.equal("the same value again", heap.put(0, 1, 2), false);
        CHECK.equal("entries", Snapshot.entries(heap, 0), "1=2");
        CHECK.equal("one remove is enough", heap.remove(0, 1), true);
        CHECK.equal("a second finds none", heap.remove(0, 1), false);
    }

    /** "each a KEY and a VALUE, two things": none is neither. */
    private static void keyAndValueAreThings() {
        EphemeronHeap heap = Heaps.of(T, R);
        heap.put(0, 1, 0);
        CHECK.refused("none as a key", heap, NoSuchElementException.class, () -> heap.put(0, NONE, 1));
        CHECK.refused("none as a value", heap, NoSuchElementException.class, () -> heap.put(0, 1, NONE));
        CHECK.refused("none as both", heap, NoSuchElementException.class, () -> heap.put(0, NONE, NONE));
    }

    /** "the how many-th one made it was, from 1 on" */
    private static void serialsFrom1On() {
        EphemeronHeap heap = Heaps.many(24, T);
        CHECK.equal("the first", heap.serial(0), 1);
        CHECK.equal("the last that has room", heap.serial(23), 24);
        CHECK.equal("one in a cell used again", heap.serial(heap.make(W)), 25);
        CHECK.equal("and the next", heap.serial(heap.make(R)), 26);
    }

    /** "There are the ROOTS 0 .. 5" "IndexOutOfBoundsException is for numbers that are no root" */
    private static void rootsAre0To5() {
        EphemeronHeap heap = Heaps.many(6, R);
        for (int r = 0; r < 6; r++) {
            heap.root(r, 5 - r);
        }
        for (int r = 0; r < 6; r++) {
            CHECK.equal("root " + r, heap.rootAt(r), 5 - r);
        }
        for (int r : new int[] {-1, 6, -6, 7, 24, 32, Integer.MIN_VALUE, Integer.MAX_VALUE}) {
            Class<IndexOutOfBoundsException> due = IndexOutOfBoundsException.class;
            EphemeronHeap other = Heaps.of(R);
            CHECK.refused("root(" + r + ", 0)", other, due, () -> other.root(r, 0));
            CHECK.refused("root(" + r + ", -1)", other, due, () -> other.root(r, NONE));
            CHECK.refused("rootAt(" + r + ")", other, due, () -> other.rootAt(r));
            CHECK.refused("guard(0, 0, " + r + ")", other, due, () -> other.guard(0, 0, r));
        }
    }

    /** "each a thing or none (none at first)" */
    private static void rootsAreNoneAtFirst() {
        EphemeronHeap heap = Heaps.of(R);
        for (int r = 0; r < 6; r++) {
            CHECK.equal("root " + r + " at first", heap.rootAt(r), NONE);
            heap.root(r, 0);
            heap.root(r, NONE);
            CHECK.equal("root " + r + " none again", heap.rootAt(r), NONE);
        }
        CHECK.equal("freed, no root left", heap.collect(), 1);
    }

    /** "A finaliser is WAITING at first; later it is QUEUED, and later DONE." */
    private static void waitingAtFirstLaterQueuedLaterDone() {
        EphemeronHeap heap = Heaps.of(W);
        heap.root(0, 0);
        heap.guard(0, 0, 0);
        heap.collect();
        CHECK.equal("waiting while it lives", heap.kind(0), W + 4);
        heap.root(0, NONE);
        CHECK.equal("waiting until it is collected", heap.kind(0), W + 4);
        heap.collect();
        CHECK.equal("queued", heap.kind(0), W + 8);
        heap.root(0, 0);
        heap.collect();
        CHECK.equal("queued, though it lives again", heap.kind(0), W + 8);
        heap.run();
        CHECK.equal("done", heap.kind(0), W + 12);
        heap.collect();
        CHECK.equal("done for good", heap.kind(0), W + 12);
    }

    /** "THE QUEUE holds things with a queued finaliser, first in, first out." */
    private static void queueFirstInFirstOut() {
        EphemeronHeap heap = Heaps.many(4, R);
        heap.root(0, 0);
        heap.root(1, 2);
        for (int cell = 0; cell < 4; cell++) {
            heap.guard(cell, 0, 0);
        }
        heap.collect();
        heap.root(1, NONE);
        heap.collect();
        heap.root(0, NONE);
        heap.collect();
        for (int cell : new int[] {1, 3, 2, 0}) {
            CHECK.equal("run", heap.run(), cell);
        }
    }

    /** The full queue: every cell has a thing with a queued finaliser. */
    private static void queueHoldsEveryCell() {
        EphemeronHeap heap = Heaps.many(24, R);
        for (int cell = 23; cell >= 0; cell--) {
            heap.guard(cell, 0, 0);
        }
        CHECK.equal("freed", heap.collect(), 0);
        CHECK.equal("queued", heap.queued(), 24);
        CHECK.equal("freed again", heap.collect(), 0);
        CHECK.equal("queued again", heap.queued(), 24);
        for (int cell = 0; cell < 24; cell++) {
            CHECK.equal("run", heap.run(), cell);
            CHECK.equal("queued behind it", heap.queued(), 23 - cell);
        }
        CHECK.refused("run behind the last", heap, NoSuchElementException.class, heap::run);
        CHECK.equal("freed at last", heap.collect(), 24);
    }

    /** More things than cells go through the queue, while it is never empty. */
    private static void queueGoesRound() {
        EphemeronHeap heap = new EphemeronHeap();
        int[] due = new int[200];
        int in = 0;
        int out = 0;
        for (int round = 0; round < 20; round++) {
            for (int i = 0; i < 3; i++) {
                int cell = heap.make(R);
                heap.guard(cell, 0, 0);
                due[in + i] = cell;
            }
            in += 3;
            // The new things of one collection come in the order of their cells, which is the order of making here.
            heap.collect();
            for (int i = 0; i < (round < 2 ? 0 : 3); i++) {
                CHECK.equal("run in round " + round, heap.run(), due[out]);
                out++;
            }
            CHECK.equal("queued in round " + round, heap.queued(), in - out);
        }
    }

    /** "`NONE = -1`: None." */
    private static void noneIsMinus1() {
        EphemeronHeap heap = Heaps.of(T, R);
        CHECK.equal("NONE", EphemeronHeap.NONE, -1);
        CHECK.equal("an empty field", heap.get(1, 0), -1);
        CHECK.equal("an empty root", heap.rootAt(0), -1);
        CHECK.equal("a key that has no value", heap.find(0, 1), -1);
    }
}
