import java.util.NoSuchElementException;

/** The edges of 'closed', 'to collect' and 'to run' in the section 'Terms': a method for each sentence. */
public final class CollectEdgesTest {
    private static final Check CHECK = new Check();
    private static final int R = Heaps.R, W = Heaps.W, T = Heaps.T, NONE = Heaps.NONE;

    public static void main(String[] args) {
        recordHasTheThingsInItsFields();
        tableHasTheValueOfEachEntryOfWhichItHasTheKey();
        weakReferentNeedNotBeInIt();
        keysNeedNotBeInIt();
        leastClosedSet();
        allThingsInRoots();
        liveWeakWhoseReferentIsNotLive();
        liveTableLosesEntriesWhoseKeyIsNotLive();
        notLiveAndWaitingAreQueued();
        queuedInTheOrderOfTheirCells();
        keptHasAllInTheQueue();
        liveTablesHaveLostEntriesByNow();
        keptWeakWhoseReferentIsNotKept();
        keptTableLosesEntriesWhoseKeyIsNotKept();
        notKeptIsFreed();
        firstThingLeavesTheQueue();
        action0DoesNothing();
        action1RootBecomesThisThing();
        action2OfARecord();
        action2OfNoRecord();
        action3EmptiesEachKind();
        action3OfAnEmptyThing();
        actionsOfALivingThing();
        CHECK.finish();
    }

    /** "A set of things is CLOSED if with a record it has the things in its fields" */
    private static void recordHasTheThingsInItsFields() {
        for (int f = 0; f < 3; f++) {
            EphemeronHeap heap = Heaps.of(R, R, R);
            heap.root(0, 0);
            heap.set(0, f, 2);
            CHECK.equal("freed, field " + f, heap.collect(), 1);
            CHECK.equal("used, field " + f, heap.used(), 1 + 4);
            CHECK.equal("field " + f, heap.get(0, f), 2);
        }
        EphemeronHeap three = Heaps.of(R, R, R, R, R);
        three.root(0, 4);
        for (int f = 0; f < 3; f++) {
            three.set(4, f, f);
        }
        CHECK.equal("freed, all fields", three.collect(), 1);
        CHECK.equal("used, all fields", three.used(), 1 + 2 + 4 + 16);
        EphemeronHeap chain = Heaps.chain(24);
        CHECK.equal("freed of the longest chain", chain.collect(), 0);
        chain.root(0, NONE);
        CHECK.equal("freed of it without a root", chain.collect(), 24);
    }

    /** "with a table it has the value of each entry of which it has the key" */
    private static void tableHasTheValueOfEachEntryOfWhichItHasTheKey() {
        for (int i = 0; i < 4; i++) {
            EphemeronHeap heap = Heaps.fullTable();
            heap.root(0, 0);
            heap.root(1, i + 1);
            CHECK.equal("freed, key " + i, heap.collect(), 4);
            CHECK.equal("used, key " + i, heap.used(), 1 + (2 << i) + 64);
        }
        EphemeronHeap four = Heaps.many(10, T);
        for (int i = 0; i < 4; i++) {
            four.put(9, i, i + 4);
            four.root(i, i);
        }
        four.root(4, 9);
        CHECK.equal("freed, all keys", four.collect(), 1);
        CHECK.equal("used, all keys", four.used(), 255 + 512);
        EphemeronHeap heap = Heaps.many(24, T);
        heap.root(0, 23);
        for (int cell = 23; cell > 0; cell--) {
            heap.put(cell, cell, cell - 1);
        }
        CHECK.equal("freed of the longest chain of tables", heap.collect(), 0);
        heap.remove(23, 23);
        CHECK.equal("freed of a cut one", heap.collect(), 23);
    }

    /** "(What a weak reference refers to, ..., need not be in it.)" */
    private static void weakReferentNeedNotBeInIt() {
        EphemeronHeap heap = Heaps.of(W, W, R);
        heap.root(0, 0);
        heap.set(0, 0, 1);
        heap.set(1, 0, 2);
        CHECK.equal("freed", heap.collect(), 2);
        CHECK.equal("used", heap.used(), 1);
    }

    /** "(... keys, need not be in it.)" */
    private static void keysNeedNotBeInIt() {
        EphemeronHeap heap = Heaps.of(T, R, R);
        heap.root(0, 0);
        heap.root(1, 2);
        heap.put(0, 1, 2);
        CHECK.equal("freed, the value lives", heap.collect(), 1);
        CHECK.equal("used", heap.used(), 1 + 4);
    }

    /** "LIVE are the things of the least closed set": what holds but itself is not in it. */
    private static void leastClosedSet() {
        EphemeronHeap heap = Heaps.of(T, R, R, R, T);
        heap.root(0, 0);
        heap.put(0, 1, 2);
        heap.put(0, 2, 1);
        heap.set(3, 0, 3);
        heap.put(0, 3, 3);
        heap.put(4, 4, 4);
        heap.put(0, 4, 4);
        CHECK.equal("freed", heap.collect(), 4);
        CHECK.equal("used", heap.used(), 1);
        CHECK.equal("entries", Snapshot.entries(heap, 0), "");
    }

    /** "that has all things in roots": no root, each root alone, all roots with one thing. */
    private static void allThingsInRoots() {
        CHECK.equal("freed, no thing and no root", new EphemeronHeap().collect(), 0);
        CHECK.equal("freed, no root", Heaps.many(24, W).collect(), 24);
        EphemeronHeap one = Heaps.of(R, R);
        EphemeronHeap six = Heaps.many(7, W);
        for (int r = 0; r < 6; r++) {
            EphemeronHeap heap = Heaps.of(R, R);
            heap.root(r, 1);
            CHECK.equal("freed, root " + r, heap.collect(), 1);
            CHECK.equal("root " + r, heap.rootAt(r), 1);
            one.root(r, 1);
            six.root(r, r + 1);
        }
        CHECK.equal("freed, one thing in all roots", one.collect(), 1);
        CHECK.equal("used, one thing in all roots", one.used(), 2);
        CHECK.equal("freed, six things in six roots", six.collect(), 1);
        CHECK.equal("used, six things in six roots", six.used(), 126);
    }

    /** "1. Each live weak reference whose referent is not live has none any more" */
    private static void liveWeakWhoseReferentIsNotLive() {
        EphemeronHeap heap = Heaps.of(W, W, W, R, R);
        for (int weak = 0; weak < 3; weak++) {
            heap.root(weak, weak);
            heap.set(weak, 0, weak + 2);
        }
        heap.guard(4, 0, 0);
        CHECK.equal("freed", heap.collect(), 1);
        CHECK.equal("a referent that lives stays", heap.get(0, 0), 2);
        CHECK.equal("one that is freed does not", heap.get(1, 0), NONE);
        CHECK.equal("nor one that is but kept", heap.get(2, 0), NONE);
    }

    /** "from each live table the entries go whose key is not live" */
    private static void liveTableLosesEntriesWhoseKeyIsNotLive() {
        EphemeronHeap heap = Heaps.fullTable();
        heap.root(0, 0);
        heap.root(1, 2);
        heap.root(2, 4);
        heap.guard(1, 0, 0);
        CHECK.equal("freed", heap.collect(), 2);
        CHECK.equal("the others stay in their order", Snapshot.entries(heap, 0), "2=6 4=6");
        CHECK.equal("there is room again", heap.put(0, 1, 1), true);
        CHECK.equal("behind the others", Snapshot.entries(heap, 0), "2=6 4=6 1=1");
    }

    /** "2. All things that are not live and have a waiting finaliser are queued" */
    private static void notLiveAndWaitingAreQueued() {
        EphemeronHeap heap = Heaps.of(R, R, R, R);
        heap.guard(3, 1, 3);
        heap.collect();
        heap.run();
        heap.root(3, NONE);
        CHECK.equal("new", heap.make(R), 0);
        CHECK.equal("new", heap.make(R), 1);
        CHECK.equal("new", heap.make(R), 2);
        heap.guard(1, 0, 0);
        heap.guard(2, 0, 0);
        heap.root(0, 2);
        CHECK.equal("freed: no finaliser, and one that is done", heap.collect(), 2);
        CHECK.equal("queued: the one that is not live", heap.queued(), 1);
        CHECK.equal("waiting: the live one", heap.kind(2), R + 4);
        CHECK.equal("run", heap.run(), 1);
    }

    /** "in the order of their cells": not of their serial numbers, nor of their guards. */
    private static void queuedInTheOrderOfTheirCells() {
        EphemeronHeap heap = Heaps.of(R, R, R, R);
        heap.root(0, 3);
        heap.root(1, 1);
        heap.collect();
        heap.make(T);
        heap.make(W);
        CHECK.equal("a later thing in an earlier cell", heap.serial(0), 5);
        for (int cell : new int[] {3, 1, 2, 0}) {
            heap.guard(cell, 0, 0);
        }
        heap.root(0, NONE);
        heap.root(1, NONE);
        heap.collect();
        for (int cell = 0; cell < 4; cell++) {
            CHECK.equal("run", heap.run(), cell);
        }
    }

    /** "3. KEPT are the things of the least closed set that has all live ones and all in the queue." */
    private static void keptHasAllInTheQueue() {
        EphemeronHeap heap = Heaps.of(R, R, T, R, R, R);
        heap.guard(0, 0, 0);
        heap.set(0, 0, 1);
        heap.set(1, 1, 2);
        heap.put(2, 0, 3);
        heap.put(2, 4, 5);
        CHECK.equal("freed", heap.collect(), 2);
        CHECK.equal("kept over a record and a table", heap.used(), 15);
        CHECK.equal("freed while it stays in the queue", heap.collect(), 0);
        heap.run();
        CHECK.equal("freed once it has left", heap.collect(), 4);
    }

    /** "(Live tables have lost entries by now.)": a key that is but kept does not hold the value. */
    private static void liveTablesHaveLostEntriesByNow() {
        EphemeronHeap heap = Heaps.of(T, R, R, T, R);
        heap.root(0, 0);
        heap.put(0, 1, 2);
        heap.put(3, 1, 4);
        heap.guard(1, 0, 0);
        heap.guard(3, 0, 0);
        CHECK.equal("freed: the value in the live table", heap.collect(), 1);
        CHECK.equal("kept: the value in the kept table", heap.used(), 1 + 2 + 8 + 16);
        CHECK.equal("entries of the live table", Snapshot.entries(heap, 0), "");
        CHECK.equal("entries of the kept table", Snapshot.entries(heap, 3), "1=4");
    }

    /** "Each kept weak reference whose referent is not kept has none any more" */
    private static void keptWeakWhoseReferentIsNotKept() {
        EphemeronHeap heap = Heaps.of(W, W, W, R, R, R);
        for (int weak = 0; weak < 3; weak++) {
            heap.guard(weak, 0, 0);
            heap.set(weak, 0, weak + 3);
        }
        heap.guard(4, 0, 0);
        heap.root(0, 5);
        CHECK.equal("freed", heap.collect(), 1);
        CHECK.equal("a referent that is freed", heap.get(0, 0), NONE);
        CHECK.equal("a referent that is kept", heap.get(1, 0), 4);
        CHECK.equal("a referent that is live", heap.get(2, 0), 5);
    }

    /** "from each kept table the entries go whose key is not kept" */
    private static void keptTableLosesEntriesWhoseKeyIsNotKept() {
        EphemeronHeap heap = Heaps.fullTable();
        heap.guard(0, 0, 0);
        heap.guard(3, 0, 0);
        heap.root(0, 4);
        CHECK.equal("freed", heap.collect(), 3);
        CHECK.equal("entries", Snapshot.entries(heap, 0), "3=6 4=6");
        CHECK.equal("used", heap.used(), 1 + 8 + 16 + 64);
    }

    /** "Each thing that is not kept is FREED: its cell has none any more." */
    private static void notKeptIsFreed() {
        EphemeronHeap heap = Heaps.chain(24);
        heap.set(0, 2, NONE);
        heap.guard(23, 0, 0);
        CHECK.equal("freed", heap.collect(), 22);
        CHECK.equal("used", heap.used(), 1 + (1 << 23));
        CHECK.thrown("kind of a freed cell", NoSuchElementException.class, () -> heap.kind(22));
        CHECK.equal("the least cell is used again", heap.make(W), 1);
        CHECK.equal("a kept thing is the same still", heap.serial(23), 24);
    }

    /** "TO RUN a finaliser: the first thing leaves the queue, its finaliser is done" */
    private static void firstThingLeavesTheQueue() {
        EphemeronHeap heap = Heaps.of(R, T, W);
        for (int cell = 0; cell < 3; cell++) {
            heap.guard(cell, 0, 0);
        }
        heap.collect();
        CHECK.equal("run", heap.run(), 0);
        CHECK.equal("queued", heap.queued(), 2);
        CHECK.equal("the first is done", heap.kind(0), R + 12);
        CHECK.equal("the second is queued", heap.kind(1), T + 8);
        CHECK.equal("its thing stays until it is collected", heap.used(), 7);
        CHECK.equal("freed", heap.collect(), 1);
    }

    /** Cell 1 has a thing of this kind, full and with this finaliser, queued; cell 0 is in the roots 4 and r. */
    private static EphemeronHeap queuedThing(int kind, int action, int r) {
        EphemeronHeap heap = Heaps.of(R, kind, R, R, R, R);
        heap.root(4, 0);
        heap.root(r, 0);
        if (kind == T) {
            for (int key = 0; key < 4; key++) {
                heap.put(1, key, key + 2);
            }
        } else {
            for (int f = 0; f < (kind == R ? 3 : 1); f++) {
                heap.set(1, f, f + 2);
            }
        }
        for (int cell = 1; cell < 6; cell++) {
            heap.guard(cell, cell == 1 ? action : 0, r);
        }
        heap.collect();
        return heap;
    }

    private static String afterRun(String before, int kind, int queued) {
        return before.replace("queued " + queued, "queued " + (queued - 1))
            .replace("1: kind " + (kind + 8), "1: kind " + (kind + 12));
    }

    /** "the action 0 does nothing" */
    private static void action0DoesNothing() {
        for (int kind = 0; kind < 3; kind++) {
            EphemeronHeap heap = queuedThing(kind, 0, 3);
            String before = Snapshot.of(heap);
            CHECK.equal("run", heap.run(), 1);
            CHECK.equal("all else as it was", Snapshot.of(heap), afterRun(before, kind, 5));
        }
    }

    /** "1: its root becomes this thing" */
    private static void action1RootBecomesThisThing() {
        for (int kind = 0; kind < 3; kind++) {
            for (int r : new int[] {0, 5}) {
                EphemeronHeap heap = queuedThing(kind, 1, r);
                String before = Snapshot.of(heap);
                CHECK.equal("run", heap.run(), 1);
                String roots = r == 0 ? "roots 1 -1 -1 -1 0 -1" : "roots -1 -1 -1 -1 0 1";
                String old = r == 0 ? "roots 0 -1 -1 -1 0 -1" : "roots -1 -1 -1 -1 0 0";
                CHECK.equal("that root alone", Snapshot.of(heap), afterRun(before, kind, 5).replace(old, roots));
            }
        }
    }

    /** "2: if it is a record, its root becomes what is in its field 0 (a thing or none)" */
    private static void action2OfARecord() {
        EphemeronHeap heap = queuedThing(R, 2, 3);
        String before = Snapshot.of(heap);
        CHECK.equal("run", heap.run(), 1);
        CHECK.equal("that root alone", Snapshot.of(heap),
            afterRun(before, R, 5).replace("roots -1 -1 -1 0 0 -1", "roots -1 -1 -1 2 0 -1"));
        EphemeronHeap none = queuedThing(R, 2, 3);
        none.set(1, 0, NONE);
        none.run();
        CHECK.equal("none, from an empty field", none.rootAt(3), NONE);
        CHECK.equal("the root of another", none.rootAt(4), 0);
        EphemeronHeap itself = queuedThing(R, 2, 3);
        itself.set(1, 0, 1);
        itself.run();
        CHECK.equal("itself", itself.rootAt(3), 1);
    }

    /** "2: if it is a record": else nothing. */
    private static void action2OfNoRecord() {
        for (int kind : new int[] {W, T}) {
            EphemeronHeap heap = queuedThing(kind, 2, 3);
            String before = Snapshot.of(heap);
            CHECK.equal("run", heap.run(), 1);
            CHECK.equal("all else as it was", Snapshot.of(heap), afterRun(before, kind, 5));
        }
    }

    /** "3: the fields of a record or weak reference become none, a table loses all its entries" */
    private static void action3EmptiesEachKind() {
        String[] full = {" 2 3 4;", " 2;", " {0=2 1=3 2=4 3=5};"};
        String[] empty = {" -1 -1 -1;", " -1;", " {};"};
        for (int kind = 0; kind < 3; kind++) {
            EphemeronHeap heap = queuedThing(kind, 3, 3);
            String before = Snapshot.of(heap);
            CHECK.equal("full at first", before.contains(" serial 2" + full[kind]), true);
            CHECK.equal("run", heap.run(), 1);
            CHECK.equal("that thing alone", Snapshot.of(heap),
                afterRun(before, kind, 5).replace(" serial 2" + full[kind], " serial 2" + empty[kind]));
        }
    }

    /** The action 3 of a thing that has nothing to lose. */
    private static void action3OfAnEmptyThing() {
        for (int kind = 0; kind < 3; kind++) {
            EphemeronHeap heap = Heaps.of(R, kind);
            heap.root(0, 0);
            heap.guard(1, 3, 0);
            heap.collect();
            String before = Snapshot.of(heap);
            CHECK.equal("run", heap.run(), 1);
            CHECK.equal("all else as it was", Snapshot.of(heap), afterRun(before, kind, 1));
        }
    }

    /** A thing that is in a root again while it is queued: its finaliser is run all the same. */
    private static void actionsOfALivingThing() {
        EphemeronHeap heap = Heaps.of(R, R);
        heap.root(5, 1);
        heap.set(0, 0, 1);
        heap.guard(0, 2, 0);
        heap.collect();
        heap.root(0, 0);
        CHECK.equal("freed", heap.collect(), 0);
        CHECK.equal("run", heap.run(), 0);
        CHECK.equal("its root", heap.rootAt(0), 1);
        CHECK.equal("freed, as its root holds another now", heap.collect(), 1);
        CHECK.equal("used", heap.used(), 2);
    }
}
