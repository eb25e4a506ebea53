/** Counts the answers that are not as due, prints each, and ends the test with exit code 1 if there was one. */
final class Check {
    private int wrong;

    void equal(String what, long got, long due) {
        if (got != due) {
            report(what, Long.toString(got), Long.toString(due));
        }
    }

    void equal(String what, boolean got, boolean due) {
        equal(what, Boolean.toString(got), Boolean.toString(due));
    }

    void equal(String what, String got, String due) {
        if (!got.equals(due)) {
            report(what, got, due);
        }
    }

    /** The call throws exactly this exception and leaves all that can be seen of the heap as it was. */
    void refused(String what, EphemeronHeap heap, Class<? extends RuntimeException> due, Runnable call) {
        String before = Snapshot.of(heap);
        thrown(what, due, call);
        equal(what + " changes nothing", Snapshot.of(heap), before);
    }

    void thrown(String what, Class<? extends RuntimeException> due, Runnable call) {
        String got = "no exception";
        try {
            call.run();
        } catch (RuntimeException e) {
            got = e.getClass().getName();
        }
        equal(what, got, due.getName());
    }

    void finish() {
        if (wrong != 0) {
            System.out.println(wrong + " answers are not as due");
            System.exit(1);
        }
    }

    private void report(String what, String got, String due) {
        wrong++;
        System.out.println(what + ": answered " + got + ", due is " + due);
    }
}
