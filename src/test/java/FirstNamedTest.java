import java.util.NoSuchElementException;

/** "Of several exceptions the one named first is thrown": each pair that can meet, call by call. */
public final class FirstNamedTest {
    private static final Check CHECK = new Check();
    private static final int NONE = Heaps.NONE;
    private static final Class<NoSuchElementException> NO_THING = NoSuchElementException.class;
    private static final Class<IllegalArgumentException> BAD_ARGUMENT = IllegalArgumentException.class;
    private static final Class<IndexOutOfBoundsException> BAD_INDEX = IndexOutOfBoundsException.class;

    public static void main(String[] args) {
        make();
        set();
        get();
        put();
        putIntoAFullTable();
        find();
        remove();
        key();
        root();
        guard();
        CHECK.finish();
    }

    private static void make() {
        EphemeronHeap heap = Heaps.chain(24);
        CHECK.refused("make: no kind, no cell", heap, BAD_ARGUMENT, () -> heap.make(3));
    }

    private static void set() {
        EphemeronHeap heap = Heaps.fullTable();
        CHECK.refused("set: no cell, no field", heap, NO_THING, () -> heap.set(7, 3, 0));
        CHECK.refused("set: no cell, no field, none", heap, NO_THING, () -> heap.set(7, 3, NONE));
        CHECK.refused("set: no target, no field", heap, NO_THING, () -> heap.set(1, 3, 7));
        CHECK.refused("set: no target, a table", heap, NO_THING, () -> heap.set(0, 0, 7));
    }

    private static void get() {
        EphemeronHeap heap = Heaps.fullTable();
        CHECK.refused("get: no cell, no field", heap, NO_THING, () -> heap.get(7, 3));
    }

    private static void put() {
        EphemeronHeap heap = Heaps.fullTable();
        CHECK.refused("put: no key, no table", heap, NO_THING, () -> heap.put(1, 7, 1));
        CHECK.refused("put: no value, no table", heap, NO_THING, () -> heap.put(1, 1, 7));
    }

    private static void putIntoAFullTable() {
        EphemeronHeap heap = Heaps.fullTable();
        CHECK.refused("put: no key, full", heap, NO_THING, () -> heap.put(0, 7, 1));
        CHECK.refused("put: no value, full", heap, NO_THING, () -> heap.put(0, 5, 7));
    }

    private static void find() {
        EphemeronHeap heap = Heaps.fullTable();
        CHECK.refused("find: no key, no table", heap, NO_THING, () -> heap.find(1, 7));
    }

    private static void remove() {
        EphemeronHeap heap = Heaps.fullTable();
        CHECK.refused("remove: no key, no table", heap, NO_THING, () -> heap.remove(1, 7));
    }

    private static void key() {
        EphemeronHeap heap = Heaps.fullTable();
        CHECK.refused("key: no cell, no entry", heap, NO_THING, () -> heap.key(7, 4));
        CHECK.refused("key: no table, no entry", heap, BAD_ARGUMENT, () -> heap.key(1, 4));
        CHECK.refused("key: no table, -1", heap, BAD_ARGUMENT, () -> heap.key(1, -1));
    }

    private static void root() {
        EphemeronHeap heap = Heaps.fullTable();
        CHECK.refused("root: no root, no cell", heap, BAD_INDEX, () -> heap.root(6, 7));
        CHECK.refused("root: no root, no cell", heap, BAD_INDEX, () -> heap.root(-1, 24));
    }

    private static void guard() {
        EphemeronHeap heap = Heaps.of(Heaps.R);
        heap.guard(0, 0, 0);
        CHECK.refused("guard: no cell, no action", heap, NO_THING, () -> heap.guard(1, 4, 0));
        CHECK.refused("guard: no cell, no root", heap, NO_THING, () -> heap.guard(1, 0, 6));
        CHECK.refused("guard: no action, no root", heap, BAD_ARGUMENT, () -> heap.guard(0, 4, 6));
        CHECK.refused("guard: no action, guarded", heap, BAD_ARGUMENT, () -> heap.guard(0, 4, 0));
        CHECK.refused("guard: no root, guarded", heap, BAD_INDEX, () -> heap.guard(0, 0, 6));
    }
}
