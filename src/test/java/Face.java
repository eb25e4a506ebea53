/** The document's face, so that a test can make the same calls on a heap and on the model. */
interface Face {
    int make(int kind);

    void set(int cell, int f, int t);

    int get(int cell, int f);

    boolean put(int cell, int key, int value);

    int find(int cell, int key);

    boolean remove(int cell, int key);

    int key(int cell, int i);

    void root(int r, int cell);

    int rootAt(int r);

    void guard(int cell, int action, int r);

    int collect();

    int run();

    int queued();

    int used();

    int kind(int cell);

    int serial(int cell);

    int collections();
}
