import java.util.ArrayList;
import java.util.Arrays;
import java.util.List;

/**
 * 'To collect' by the words of the document: among all sets of things the closed ones are sought, and the least of
 * them is taken, where the program and the model let a set grow. Each heap is collected twice, so that the second
 * time things are in the queue from the first.
 */
public final class LeastClosedSetTest {
    private static final int HEAPS = 6000;
    private static final Check CHECK = new Check();

    private long seed;
    private EphemeronHeap heap;
    private final int[] roots = new int[6];
    private List<Integer> queue;

    public static void main(String[] args) {
        LeastClosedSetTest test = new LeastClosedSetTest();
        for (int number = 0; number < HEAPS; number++) {
            test.oneHeap(number);
        }
        CHECK.finish();
    }

    private void oneHeap(int number) {
        seed = number * 104729L + 3;
        heap = new EphemeronHeap();
        Arrays.fill(roots, Heaps.NONE);
        queue = new ArrayList<>();
        fill(number % 4);
        collect("heap " + number + ", first collection");
        change();
        collect("heap " + number + ", second collection");
        runAll("heap " + number);
    }

    /** A number 0 .. bound - 1, the same in every run of this test. */
    private int below(int bound) {
        seed = seed * 6364136223846793005L + 1442695040888963407L;
        return (int) ((seed >>> 33) % bound);
    }

    private void fill(int many) {
        for (int i = 0; i < Picture.MOST; i++) {
            // Tables come most often: what they hold is the hardest to find.
            int kind = below(5);
            heap.make(kind < 2 ? kind : kind < 4 ? Heaps.T : Heaps.R);
        }
        for (int cell = 0; cell < Picture.MOST; cell++) {
            link(cell, 1 + below(1 + many));
            if (below(4) == 0) {
                // Action 0, so that a run changes no root behind the back of this test.
                heap.guard(cell, 0, 0);
            }
        }
        for (int i = 0; i < 1 + below(2); i++) {
            root(below(6), below(Picture.MOST));
        }
    }

    private void link(int cell, int times) {
        int kind = heap.kind(cell) % 4;
        for (int i = 0; i < times; i++) {
            int one = below(Picture.MOST);
            int other = below(Picture.MOST);
            if (kind == Heaps.T) {
                heap.put(cell, one, other);
            } else {
                heap.set(cell, kind == Heaps.R ? below(3) : 0, one);
            }
        }
    }

    private void root(int r, int cell) {
        heap.root(r, cell);
        roots[r] = cell;
    }

    private void change() {
        for (int r = 0; r < 6; r++) {
            if (below(2) == 0) {
                root(r, Heaps.NONE);
            }
        }
        if (!queue.isEmpty() && below(2) == 0) {
            CHECK.equal("run between", heap.run(), queue.remove(0));
        }
    }

    private void collect(String what) {
        Picture due = Picture.of(heap);
        String before = what + " of " + due + "roots " + Arrays.toString(roots);
        CHECK.equal(before, heap.collect(), due.collect(roots, queue));
        CHECK.equal(before, Picture.of(heap).toString(), due.toString());
        CHECK.equal(before + ", queued", heap.queued(), queue.size());
    }

    private void runAll(String what) {
        for (int cell : queue) {
            CHECK.equal(what + ", run", heap.run(), cell);
        }
    }
}
