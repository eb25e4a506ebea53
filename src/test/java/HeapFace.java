/** An EphemeronHeap behind the interface. */
final class HeapFace implements Face {
    private final EphemeronHeap heap;

    HeapFace(EphemeronHeap heap) {
        this.heap = heap;
    }

    @Override
    public int make(int kind) {
        return heap.make(kind);
    }

    @Override
    public void set(int cell, int f, int t) {
        heap.set(cell, f, t);
    }

    @Override
    public int get(int cell, int f) {
        return heap.get(cell, f);
    }

    @Override
    public boolean put(int cell, int key, int value) {
        return heap.put(cell, key, value);
    }

    @Override
    public int find(int cell, int key) {
        return heap.find(cell, key);
    }

    @Override
    public boolean remove(int cell, int key) {
        return heap.remove(cell, key);
    }

    @Override
    public int key(int cell, int i) {
        return heap.key(cell, i);
    }

    @Override
    public void root(int r, int cell) {
        heap.root(r, cell);
    }

    @Override
    public int rootAt(int r) {
        return heap.rootAt(r);
    }

    @Override
    public void guard(int cell, int action, int r) {
        heap.guard(cell, action, r);
    }

    @Override
    public int collect() {
        return heap.collect();
    }

    @Override
    public int run() {
        return heap.run();
    }

    @Override
    public int queued() {
        return heap.queued();
    }

    @Override
    public int used() {
        return heap.used();
    }

    @Override
    public int kind(int cell) {
        return heap.kind(cell);
    }

    @Override
    public int serial(int cell) {
        return heap.serial(cell);
    }

    @Override
    public int collections() {
        return heap.collections();
    }
}
