import java.util.function.ToIntFunction;

/** All promises: runs of 512 calls, right and wrong ones mixed, each answered as the model answers. */
public final class AgainstModelTest {
    private static final int RUNS = 4000;
    private static final int CALLS = 512;

    // How often, in each mood, come: make, set, put, remove, root, guard, collect, run, and looking.
    private static final int[][] MOODS = {
        {10, 10, 10, 2, 6, 5, 4, 4, 20},
        {20, 30, 10, 1, 8, 8, 1, 6, 10},
        {20, 6, 40, 2, 8, 4, 3, 3, 20},
        {30, 10, 10, 1, 3, 30, 2, 6, 10},
        {40, 30, 5, 1, 2, 2, 0, 2, 10},
        {15, 20, 30, 1, 15, 15, 10, 10, 10},
    };

    private long seed;
    private Face heap;
    private Face model;
    private int wrong;

    public static void main(String[] args) {
        AgainstModelTest test = new AgainstModelTest();
        for (int run = 0; run < RUNS && test.wrong < 20; run++) {
            test.oneRun(run);
        }
        if (test.wrong != 0) {
            System.exit(1);
        }
    }

    private void oneRun(int run) {
        seed = run * 7919L + 1;
        heap = new HeapFace(new EphemeronHeap());
        model = new Model();
        int[] mood = MOODS[run % MOODS.length];
        for (int call = 0; call < CALLS; call++) {
            if (!oneCall(mood)) {
                System.out.println("in run " + run + ", call " + call);
                return;
            }
        }
    }

    /** A number 0 .. bound - 1, the same in every run of this test. */
    private int below(int bound) {
        seed = seed * 6364136223846793005L + 1442695040888963407L;
        return (int) ((seed >>> 33) % bound);
    }

    private int cell() {
        if (below(40) == 0) {
            return new int[] {-2, 24, 25, 32, -32, Integer.MIN_VALUE, Integer.MAX_VALUE}[below(7)];
        }
        int used = model.used();
        if (used == 0 || below(20) == 0) {
            return below(25) - 1;
        }
        int cell = below(24);
        while ((used >>> cell & 1) == 0) {
            cell = (cell + 1) % 24;
        }
        return cell;
    }

    private int cellOfKind(int kind) {
        int cell = cell();
        for (int tries = 0; tries < 8 && below(20) != 0; tries++) {
            if ((model.used() >>> Math.floorMod(cell, 32) & 1) != 0 && cell >= 0 && cell < 24
                && model.kind(cell) % 4 == kind) {
                return cell;
            }
            cell = cell();
        }
        return cell;
    }

    private int number(int bound) {
        return below(30) == 0 ? below(2) * (bound + 1) - 1 : below(bound);
    }

    private boolean oneCall(int[] mood) {
        int sum = 0;
        for (int weight : mood) {
            sum += weight;
        }
        int choice = below(sum);
        int kind = 0;
        while (choice >= mood[kind]) {
            choice -= mood[kind];
            kind++;
        }
        switch (kind) {
            case 0: return make(number(3));
            case 1: return set(cellOfKind(below(2)), number(3), below(6) == 0 ? -1 : cell());
            case 2: return put(cellOfKind(2), cell(), cell());
            case 3: return remove(cellOfKind(2), cell());
            case 4: return root(number(6), below(3) == 0 ? -1 : cell());
            case 5: return guard(cell(), number(4), number(6));
            case 6: return same("collect()", x -> x.collect());
            case 7: return same("run()", x -> x.run());
            default: return look();
        }
    }

    private boolean look() {
        int c = cell();
        switch (below(9)) {
            case 0: return get(cellOfKind(below(2)), number(3));
            case 1: return find(cellOfKind(2), cell());
            case 2: return key(cellOfKind(2), number(4));
            case 3: return rootAt(number(6));
            case 4: return same("queued()", x -> x.queued());
            case 5: return same("used()", x -> x.used());
            case 6: return same("kind(" + c + ")", x -> x.kind(c));
            case 7: return same("serial(" + c + ")", x -> x.serial(c));
            default: return same("collections()", x -> x.collections());
        }
    }

    private boolean make(int kind) {
        return same("make(" + kind + ")", x -> x.make(kind));
    }

    private boolean set(int cell, int f, int t) {
        return same("set(" + cell + ", " + f + ", " + t + ")", x -> {
            x.set(cell, f, t);
            return 0;
        });
    }

    private boolean get(int cell, int f) {
        return same("get(" + cell + ", " + f + ")", x -> x.get(cell, f));
    }

    private boolean put(int cell, int key, int value) {
        return same("put(" + cell + ", " + key + ", " + value + ")", x -> x.put(cell, key, value) ? 1 : 0);
    }

    private boolean find(int cell, int key) {
        return same("find(" + cell + ", " + key + ")", x -> x.find(cell, key));
    }

    private boolean remove(int cell, int key) {
        return same("remove(" + cell + ", " + key + ")", x -> x.remove(cell, key) ? 1 : 0);
    }

    private boolean key(int cell, int i) {
        return same("key(" + cell + ", " + i + ")", x -> x.key(cell, i));
    }

    private boolean root(int r, int cell) {
        return same("root(" + r + ", " + cell + ")", x -> {
            x.root(r, cell);
            return 0;
        });
    }

    private boolean rootAt(int r) {
        return same("rootAt(" + r + ")", x -> x.rootAt(r));
    }

    private boolean guard(int cell, int action, int r) {
        return same("guard(" + cell + ", " + action + ", " + r + ")", x -> {
            x.guard(cell, action, r);
            return 0;
        });
    }

    private boolean same(String call, ToIntFunction<Face> asked) {
        String due = answer(model, asked);
        String got = answer(heap, asked);
        if (got.equals(due)) {
            return true;
        }
        wrong++;
        System.out.print(call + ": answered " + got + ", due is " + due + ", ");
        return false;
    }

    private static String answer(Face face, ToIntFunction<Face> call) {
        try {
            return Integer.toString(call.applyAsInt(face));
        } catch (RuntimeException e) {
            return "throws." + e.getClass().getSimpleName();
        }
    }
}
