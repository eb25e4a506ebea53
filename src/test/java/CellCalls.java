/** Every way in which a call of the face takes a cell, on a heap with a table in cell 0 and a record in cell 1. */
enum CellCalls {
    KIND("kind(c)", (heap, c) -> heap.kind(c)),
    SERIAL("serial(c)", (heap, c) -> heap.serial(c)),
    GET("get(c, 0)", (heap, c) -> heap.get(c, 0)),
    SET("set(c, 0, 1)", (heap, c) -> heap.set(c, 0, 1)),
    SET_NONE("set(c, 0, -1)", (heap, c) -> heap.set(c, 0, -1)),
    SET_TO("set(1, 0, c)", (heap, c) -> heap.set(1, 0, c)),
    PUT("put(c, 1, 1)", (heap, c) -> heap.put(c, 1, 1)),
    PUT_KEY("put(0, c, 1)", (heap, c) -> heap.put(0, c, 1)),
    PUT_VALUE("put(0, 1, c)", (heap, c) -> heap.put(0, 1, c)),
    FIND("find(c, 1)", (heap, c) -> heap.find(c, 1)),
    FIND_KEY("find(0, c)", (heap, c) -> heap.find(0, c)),
    REMOVE("remove(c, 1)", (heap, c) -> heap.remove(c, 1)),
    REMOVE_KEY("remove(0, c)", (heap, c) -> heap.remove(0, c)),
    KEY("key(c, 0)", (heap, c) -> heap.key(c, 0)),
    ROOT("root(0, c)", (heap, c) -> heap.root(0, c)),
    GUARD("guard(c, 0, 0)", (heap, c) -> heap.guard(c, 0, 0));

    interface Call {
        void on(EphemeronHeap heap, int cell);
    }

    private final String text;
    private final Call call;

    CellCalls(String text, Call call) {
        this.text = text;
        this.call = call;
    }

    String text(int cell) {
        return text.replace("c,", cell + ",").replace("c)", cell + ")");
    }

    void on(EphemeronHeap heap, int cell) {
        call.on(heap, cell);
    }

    /** Whether -1 stands for none here, and so is no wrong cell. */
    boolean takesNone() {
        return this == SET_TO || this == ROOT;
    }
}
