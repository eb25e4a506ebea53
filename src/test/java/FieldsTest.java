import java.util.NoSuchElementException;

/** Promises 3 and 4: set and get. */
public final class FieldsTest {
    private static final Check CHECK = new Check();
    private static final int[] NO_CELLS = {-2, 3, 23, 24, 32, 33, -32, Integer.MIN_VALUE, Integer.MAX_VALUE};

    public static void main(String[] args) {
        recordFields();
        weakField();
        wrongCells();
        wrongFields();
        orderOfExceptions();
        CHECK.finish();
    }

    /** A record in cell 0, a weak reference in cell 1, a table in cell 2. */
    private static EphemeronHeap three() {
        EphemeronHeap heap = new EphemeronHeap();
        heap.make(EphemeronHeap.RECORD);
        heap.make(EphemeronHeap.WEAK);
        heap.make(EphemeronHeap.TABLE);
        return heap;
    }

    private static void recordFields() {
        EphemeronHeap heap = three();
        for (int f = 0; f < 3; f++) {
            CHECK.equal("a new field", heap.get(0, f), EphemeronHeap.NONE);
            heap.set(0, f, f);
        }
        for (int f = 0; f < 3; f++) {
            CHECK.equal("field " + f, heap.get(0, f), f);
        }
        heap.set(0, 1, 2);
        heap.set(0, 2, EphemeronHeap.NONE);
        CHECK.equal("field 0 stays", heap.get(0, 0), 0);
        CHECK.equal("field 1 set again", heap.get(0, 1), 2);
        CHECK.equal("field 2 set to none", heap.get(0, 2), EphemeronHeap.NONE);
    }

    private static void weakField() {
        EphemeronHeap heap = three();
        CHECK.equal("a new referent", heap.get(1, 0), EphemeronHeap.NONE);
        for (int t : new int[] {2, 1, 0, -1}) {
            heap.set(1, 0, t);
            CHECK.equal("referent", heap.get(1, 0), t);
        }
    }

    private static void wrongCells() {
        EphemeronHeap heap = three();
        heap.set(0, 0, 1);
        for (int cell : NO_CELLS) {
            CHECK.thrown("set(" + cell + ", 0, 1)", NoSuchElementException.class, () -> heap.set(cell, 0, 1));
            CHECK.thrown("set(0, 0, " + cell + ")", NoSuchElementException.class, () -> heap.set(0, 0, cell));
            CHECK.thrown("get(" + cell + ", 0)", NoSuchElementException.class, () -> heap.get(cell, 0));
        }
        CHECK.equal("field 0 stays", heap.get(0, 0), 1);
        CHECK.refused("set(-1, 0, 1)", heap, NoSuchElementException.class, () -> heap.set(-1, 0, 1));
        CHECK.refused("get(-1, 0)", heap, NoSuchElementException.class, () -> heap.get(-1, 0));
        CHECK.refused("set(0, 0, 3)", heap, NoSuchElementException.class, () -> heap.set(0, 0, 3));
    }

    private static void wrongFields() {
        EphemeronHeap heap = three();
        for (int f : new int[] {-1, 3, 4, Integer.MIN_VALUE, Integer.MAX_VALUE}) {
            wrongField(heap, 0, f);
        }
        for (int f : new int[] {-1, 1, 2, 3}) {
            wrongField(heap, 1, f);
        }
        for (int f : new int[] {-1, 0, 1, 2, 3}) {
            wrongField(heap, 2, f);
        }
        EphemeronHeap other = three();
        CHECK.refused("set(2, 0, 1)", other, IllegalArgumentException.class, () -> other.set(2, 0, 1));
        CHECK.refused("set(1, 1, -1)", other, IllegalArgumentException.class, () -> other.set(1, 1, -1));
        CHECK.refused("get(1, 1)", other, IllegalArgumentException.class, () -> other.get(1, 1));
    }

    private static void wrongField(EphemeronHeap heap, int cell, int f) {
        CHECK.thrown("get(" + cell + ", " + f + ")", IllegalArgumentException.class, () -> heap.get(cell, f));
        CHECK.thrown("set(" + cell + ", " + f + ", 0)", IllegalArgumentException.class, () -> heap.set(cell, f, 0));
        CHECK.thrown("set(" + cell + ", " + f + ", -1)", IllegalArgumentException.class, () -> heap.set(cell, f, -1));
    }

    private static void orderOfExceptions() {
        EphemeronHeap heap = three();
        CHECK.refused("set(0, 3, 5)", heap, NoSuchElementException.class, () -> heap.set(0, 3, 5));
        CHECK.refused("set(2, 0, -2)", heap, NoSuchElementException.class, () -> heap.set(2, 0, -2));
        CHECK.refused("set(5, 9, 0)", heap, NoSuchElementException.class, () -> heap.set(5, 9, 0));
        CHECK.refused("get(24, 9)", heap, NoSuchElementException.class, () -> heap.get(24, 9));
    }
}
