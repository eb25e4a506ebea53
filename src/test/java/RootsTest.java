import java.util.NoSuchElementException;

/** Promises 9 and 10: root and rootAt. */
public final class RootsTest {
    private static final Check CHECK = new Check();
    private static final int[] NO_ROOTS = {-1, -2, 6, 7, 24, Integer.MIN_VALUE, Integer.MAX_VALUE};
    private static final int[] NO_CELLS = {-2, 3, 23, 24, 32, -32, Integer.MIN_VALUE, Integer.MAX_VALUE};

    public static void main(String[] args) {
        eachRoot();
        eachRootKeeps();
        wrongRoots();
        wrongCells();
        orderOfExceptions();
        CHECK.finish();
    }

    private static EphemeronHeap three() {
        EphemeronHeap heap = new EphemeronHeap();
        for (int kind = 0; kind < 3; kind++) {
            heap.make(kind);
        }
        return heap;
    }

    private static void eachRoot() {
        EphemeronHeap heap = three();
        for (int r = 0; r < 6; r++) {
            CHECK.equal("a new root", heap.rootAt(r), EphemeronHeap.NONE);
            heap.root(r, r % 3);
        }
        for (int r = 0; r < 6; r++) {
            CHECK.equal("root " + r, heap.rootAt(r), r % 3);
        }
        heap.root(4, 2);
        heap.root(5, EphemeronHeap.NONE);
        CHECK.equal("root 3 stays", heap.rootAt(3), 0);
        CHECK.equal("root 4 set again", heap.rootAt(4), 2);
        CHECK.equal("root 5 set to none", heap.rootAt(5), EphemeronHeap.NONE);
        heap.root(5, EphemeronHeap.NONE);
        CHECK.equal("root 5 set to none again", heap.rootAt(5), EphemeronHeap.NONE);
    }

    private static void eachRootKeeps() {
        for (int r = 0; r < 6; r++) {
            EphemeronHeap heap = three();
            heap.root(r, 1);
            CHECK.equal("freed", heap.collect(), 2);
            CHECK.equal("kept by root " + r, heap.used(), 2);
            heap.root(r, EphemeronHeap.NONE);
            CHECK.equal("freed without root " + r, heap.collect(), 1);
        }
    }

    private static void wrongRoots() {
        EphemeronHeap heap = three();
        for (int r : NO_ROOTS) {
            CHECK.thrown("root(" + r + ", 0)", IndexOutOfBoundsException.class, () -> heap.root(r, 0));
            CHECK.thrown("root(" + r + ", -1)", IndexOutOfBoundsException.class, () -> heap.root(r, -1));
            CHECK.thrown("rootAt(" + r + ")", IndexOutOfBoundsException.class, () -> heap.rootAt(r));
        }
        CHECK.refused("root(6, 0)", heap, IndexOutOfBoundsException.class, () -> heap.root(6, 0));
        CHECK.refused("rootAt(6)", heap, IndexOutOfBoundsException.class, () -> heap.rootAt(6));
    }

    private static void wrongCells() {
        EphemeronHeap heap = three();
        heap.root(0, 1);
        for (int cell : NO_CELLS) {
            CHECK.thrown("root(0, " + cell + ")", NoSuchElementException.class, () -> heap.root(0, cell));
            CHECK.equal("root 0 stays", heap.rootAt(0), 1);
        }
        CHECK.refused("root(0, 3)", heap, NoSuchElementException.class, () -> heap.root(0, 3));
        heap.collect();
        CHECK.refused("root of a freed cell", heap, NoSuchElementException.class, () -> heap.root(0, 0));
    }

    private static void orderOfExceptions() {
        EphemeronHeap heap = three();
        CHECK.refused("root(6, 24)", heap, IndexOutOfBoundsException.class, () -> heap.root(6, 24));
        CHECK.refused("root(-1, -2)", heap, IndexOutOfBoundsException.class, () -> heap.root(-1, -2));
    }
}
