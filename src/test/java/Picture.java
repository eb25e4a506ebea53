import java.util.ArrayList;
import java.util.Arrays;
import java.util.Iterator;
import java.util.List;

/** What a heap of few things holds, read through its face, and 'to collect' done on it by the words of the document. */
final class Picture {
    static final int MOST = 8;

    private final int[] kinds = new int[MOST];
    private final int[] states = new int[MOST];
    private final int[][] fields = new int[MOST][];
    private final List<List<int[]>> entries = new ArrayList<>();
    private int used;

    /** Costs one call, and up to ten for each thing. */
    static Picture of(EphemeronHeap heap) {
        Picture picture = new Picture();
        picture.used = heap.used();
        for (int cell = 0; cell < MOST; cell++) {
            picture.entries.add(new ArrayList<>());
            picture.fields[cell] = new int[0];
            if (in(picture.used, cell)) {
                picture.look(heap, cell);
            }
        }
        return picture;
    }

    private void look(EphemeronHeap heap, int cell) {
        int kind = heap.kind(cell);
        kinds[cell] = kind % 4;
        states[cell] = kind / 4;
        fields[cell] = new int[kinds[cell] == Heaps.R ? 3 : kinds[cell] == Heaps.W ? 1 : 0];
        for (int f = 0; f < fields[cell].length; f++) {
            fields[cell][f] = heap.get(cell, f);
        }
        for (int i = 0; kinds[cell] == Heaps.T && i < 4; i++) {
            try {
                int key = heap.key(cell, i);
                entries.get(cell).add(new int[] {key, heap.find(cell, key)});
            } catch (IndexOutOfBoundsException e) {
                return;
            }
        }
    }

    /** Collects: how many things were freed. What is queued is added to the queue. */
    int collect(int[] roots, List<Integer> queue) {
        int inRoots = 0;
        for (int thing : roots) {
            inRoots |= bit(thing);
        }
        int live = leastClosed(inRoots);
        forget(live);
        for (int cell = 0; cell < MOST; cell++) {
            if (in(used, cell) && !in(live, cell) && states[cell] == 1) {
                states[cell] = 2;
                queue.add(cell);
            }
        }
        int inQueue = 0;
        for (int thing : queue) {
            inQueue |= bit(thing);
        }
        int kept = leastClosed(live | inQueue);
        forget(kept);
        int freed = Integer.bitCount(used & ~kept);
        used = kept;
        return freed;
    }

    /** "the least closed set that has all": what all closed sets that have them have in common. */
    private int leastClosed(int all) {
        int common = used;
        for (int set = 0; set < 1 << MOST; set++) {
            if ((set & ~used) == 0 && (all & ~set) == 0 && closed(set)) {
                common &= set;
            }
        }
        return common;
    }

    /** "with a record it has the things in its fields, and with a table the value of each entry of which it has the key" */
    private boolean closed(int set) {
        for (int cell = 0; cell < MOST; cell++) {
            if (in(set, cell) && kinds[cell] == Heaps.R) {
                for (int thing : fields[cell]) {
                    if ((bit(thing) & ~set) != 0) {
                        return false;
                    }
                }
            }
            if (in(set, cell) && kinds[cell] == Heaps.T) {
                for (int[] entry : entries.get(cell)) {
                    if (in(set, entry[0]) && !in(set, entry[1])) {
                        return false;
                    }
                }
            }
        }
        return true;
    }

    private void forget(int set) {
        for (int cell = 0; cell < MOST; cell++) {
            if (in(set, cell) && kinds[cell] == Heaps.W && (bit(fields[cell][0]) & ~set) != 0) {
                fields[cell][0] = Heaps.NONE;
            }
            if (in(set, cell) && kinds[cell] == Heaps.T) {
                for (Iterator<int[]> each = entries.get(cell).iterator(); each.hasNext();) {
                    if (!in(set, each.next()[0])) {
                        each.remove();
                    }
                }
            }
        }
    }

    private static int bit(int thing) {
        return thing == Heaps.NONE ? 0 : 1 << thing;
    }

    private static boolean in(int set, int cell) {
        return (set >>> cell & 1) != 0;
    }

    @Override
    public String toString() {
        StringBuilder text = new StringBuilder();
        for (int cell = 0; cell < MOST; cell++) {
            if (in(used, cell)) {
                text.append(cell).append(": kind ").append(kinds[cell]).append(" state ").append(states[cell]);
                text.append(' ').append(Arrays.toString(fields[cell]));
                for (int[] entry : entries.get(cell)) {
                    text.append(' ').append(entry[0]).append('=').append(entry[1]);
                }
                text.append("; ");
            }
        }
        return text.toString();
    }
}
