/** Heaps that several tests begin with. */
final class Heaps {
    static final int R = EphemeronHeap.RECORD, W = EphemeronHeap.WEAK, T = EphemeronHeap.TABLE;
    static final int NONE = EphemeronHeap.NONE;
    static final int ALL = (1 << 24) - 1;

    private Heaps() {
    }

    /** Things of these kinds in the cells 0, 1, 2 .. */
    static EphemeronHeap of(int... kinds) {
        EphemeronHeap heap = new EphemeronHeap();
        for (int kind : kinds) {
            heap.make(kind);
        }
        return heap;
    }

    /** Things of one kind in the cells 0 .. count - 1. */
    static EphemeronHeap many(int count, int kind) {
        EphemeronHeap heap = new EphemeronHeap();
        for (int i = 0; i < count; i++) {
            heap.make(kind);
        }
        return heap;
    }

    /** Records in the cells 0 .. length - 1, each in field 2 of the one before, the first in root 0. */
    static EphemeronHeap chain(int length) {
        EphemeronHeap heap = many(length, R);
        heap.root(0, 0);
        for (int cell = 1; cell < length; cell++) {
            heap.set(cell - 1, 2, cell);
        }
        return heap;
    }

    /** A table in cell 0, records in 1 .. 6, and the table full: 1=6 2=6 3=6 4=6. */
    static EphemeronHeap fullTable() {
        EphemeronHeap heap = of(T, R, R, R, R, R, R);
        for (int key = 1; key <= 4; key++) {
            heap.put(0, key, 6);
        }
        return heap;
    }
}
