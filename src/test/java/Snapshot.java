/** All that the public face tells of a heap, as a text. Costs 9 calls, and up to 11 for each thing. */
final class Snapshot {
    private Snapshot() {
    }

    static String of(EphemeronHeap heap) {
        return of(new HeapFace(heap));
    }

    static String of(Face heap) {
        StringBuilder text = new StringBuilder();
        text.append("collections ").append(heap.collections()).append(" queued ").append(heap.queued());
        text.append(" roots");
        for (int r = 0; r < 6; r++) {
            text.append(' ').append(heap.rootAt(r));
        }
        int used = heap.used();
        for (int cell = 0; cell < 32; cell++) {
            if ((used >>> cell & 1) != 0) {
                text.append("; ").append(cell).append(": ").append(thing(heap, cell));
            }
        }
        return text.toString();
    }

    private static String thing(Face heap, int cell) {
        int kind = heap.kind(cell);
        StringBuilder text = new StringBuilder();
        text.append("kind ").append(kind).append(" serial ").append(heap.serial(cell));
        if (kind % 4 == EphemeronHeap.TABLE) {
            text.append(" {").append(entries(heap, cell)).append('}');
        } else {
            int fields = kind % 4 == EphemeronHeap.RECORD ? 3 : 1;
            for (int f = 0; f < fields; f++) {
                text.append(' ').append(heap.get(cell, f));
            }
        }
        return text.toString();
    }

    /** The entries of a table in their order, as "key=value key=value". */
    static String entries(EphemeronHeap heap, int cell) {
        return entries(new HeapFace(heap), cell);
    }

    private static String entries(Face heap, int cell) {
        StringBuilder text = new StringBuilder();
        for (int i = 0; i < 5; i++) {
            int key;
            try {
                key = heap.key(cell, i);
            } catch (IndexOutOfBoundsException e) {
                return text.toString();
            }
            text.append(i == 0 ? "" : " ").append(key).append('=').append(heap.find(cell, key));
        }
        return text.toString();
    }
}
