/**
 * Every call with every mixture of arguments at and beyond the edges, on heaps in several states: it answers or
 * throws as the model does, and leaves the heap as the model is left; so a refused call changes nothing.
 */
public final class RefusalsTest {
    private static final int[] CELLS = {
        Integer.MIN_VALUE, -32, -2, -1, 0, 1, 2, 3, 7, 22, 23, 24, 32, 33, Integer.MAX_VALUE};
    private static final int[] NUMBERS = {
        Integer.MIN_VALUE, -32, -2, -1, 0, 1, 2, 3, 4, 5, 6, 7, 32, Integer.MAX_VALUE};
    private static final int[] NOTHING = {0};
    private static final int R = Heaps.R, W = Heaps.W, T = Heaps.T, NONE = Heaps.NONE;

    private enum State {
        NEW {
            @Override
            void bring(Face face) {
            }
        },
        FULL_TABLE_AND_OTHERS {
            @Override
            void bring(Face face) {
                makeTableAndOthers(face);
            }
        },
        FULL_AND_LIVE {
            @Override
            void bring(Face face) {
                makeTableAndOthers(face);
                for (int cell = face.make(R); cell < 23; cell++) {
                    face.set(cell, 2, face.make(R));
                }
                face.set(3, 0, 4);
                face.set(4, 0, 5);
                face.set(5, 0, 6);
                face.set(5, 1, 7);
            }
        },
        FULL_AND_DEAD {
            @Override
            void bring(Face face) {
                makeTableAndOthers(face);
                for (int cell = 7; cell < 24; cell++) {
                    face.make(cell % 3);
                }
                for (int r = 0; r < 6; r++) {
                    face.root(r, NONE);
                }
            }
        },
        FULL_AND_KEPT {
            @Override
            void bring(Face face) {
                FULL_AND_DEAD.bring(face);
                for (int cell = 0; cell < 24; cell++) {
                    face.guard(cell, cell % 4, cell % 6);
                }
            }
        },
        FREED {
            @Override
            void bring(Face face) {
                FULL_AND_DEAD.bring(face);
                face.root(0, 23);
                face.root(1, 0);
                face.root(2, 2);
                face.collect();
            }
        },
        QUEUED {
            @Override
            void bring(Face face) {
                FULL_AND_KEPT.bring(face);
                face.root(3, 7);
                face.collect();
            }
        },
        DONE {
            @Override
            void bring(Face face) {
                QUEUED.bring(face);
                for (int i = 0; i < 23; i++) {
                    face.run();
                }
            }
        };

        abstract void bring(Face face);

        /** A full table, a record and a weak reference, all in roots, and four records more. */
        private static void makeTableAndOthers(Face face) {
            for (int kind : new int[] {T, R, W, R, R, R, R}) {
                face.make(kind);
            }
            for (int i = 0; i < 4; i++) {
                face.put(0, i, 6 - i);
            }
            face.set(1, 2, 3);
            face.set(2, 0, 1);
            for (int r = 0; r < 3; r++) {
                face.root(r, r);
            }
        }
    }

    private interface Call {
        int on(Face face, int a, int b, int c);
    }

    private static int wrong;

    public static void main(String[] args) {
        sweep("make", NUMBERS, NOTHING, NOTHING, (x, a, b, c) -> x.make(a));
        sweep("set", CELLS, NUMBERS, CELLS, (x, a, b, c) -> {
            x.set(a, b, c);
            return 0;
        });
        sweep("get", CELLS, NUMBERS, NOTHING, (x, a, b, c) -> x.get(a, b));
        sweep("put", CELLS, CELLS, CELLS, (x, a, b, c) -> x.put(a, b, c) ? 1 : 0);
        sweep("find", CELLS, CELLS, NOTHING, (x, a, b, c) -> x.find(a, b));
        sweep("remove", CELLS, CELLS, NOTHING, (x, a, b, c) -> x.remove(a, b) ? 1 : 0);
        sweep("key", CELLS, NUMBERS, NOTHING, (x, a, b, c) -> x.key(a, b));
        sweep("root", NUMBERS, CELLS, NOTHING, (x, a, b, c) -> {
            x.root(a, b);
            return 0;
        });
        sweep("rootAt", NUMBERS, NOTHING, NOTHING, (x, a, b, c) -> x.rootAt(a));
        sweep("guard", CELLS, NUMBERS, NUMBERS, (x, a, b, c) -> {
            x.guard(a, b, c);
            return 0;
        });
        sweep("collect", NOTHING, NOTHING, NOTHING, (x, a, b, c) -> x.collect());
        sweep("run", NOTHING, NOTHING, NOTHING, (x, a, b, c) -> x.run());
        sweep("kind", CELLS, NOTHING, NOTHING, (x, a, b, c) -> x.kind(a));
        sweep("serial", CELLS, NOTHING, NOTHING, (x, a, b, c) -> x.serial(a));
        if (wrong != 0) {
            System.out.println(wrong + " calls are not as due");
            System.exit(1);
        }
    }

    private static void sweep(String name, int[] first, int[] second, int[] third, Call call) {
        for (State state : State.values()) {
            for (int a : first) {
                for (int b : second) {
                    for (int c : third) {
                        String got = outcome(new HeapFace(new EphemeronHeap()), state, call, a, b, c);
                        String due = outcome(new Model(), state, call, a, b, c);
                        report(name + " of " + a + " " + b + " " + c + ", " + state, got, due);
                    }
                }
            }
        }
    }

    private static String outcome(Face face, State state, Call call, int a, int b, int c) {
        state.bring(face);
        String answer;
        try {
            answer = Integer.toString(call.on(face, a, b, c));
        } catch (RuntimeException e) {
            answer = "throws." + e.getClass().getSimpleName();
        }
        return answer + ", then " + Snapshot.of(face);
    }

    private static void report(String what, String got, String due) {
        if (!got.equals(due)) {
            wrong++;
            if (wrong <= 20) {
                System.out.println(what + ": answered " + got + "; due is " + due);
            }
        }
    }
}
