/** Collects answers that are not as due; a test ends with done(), which exits with 1 if there was one. */
final class Check {
    private static final long MOST_MILLIS = 300_000L;

    private volatile String about = "";
    private int wrong = 0;
    private int looked = 0;

    Check() {
        Thread watch = new Thread(this::endLate);
        watch.setDaemon(true);
        watch.start();
    }

    // A call that does not end breaks the document as a wrong answer does, and must not hold up the rest.
    private void endLate() {
        try {
            Thread.sleep(MOST_MILLIS);
        } catch (InterruptedException e) {
            return;
        }
        System.out.println(about + ": a call does not end");
        Runtime.getRuntime().halt(1);
    }

    void about(String subject) {
        about = subject;
    }

    void is(String call, long got, long due) {
        looked++;
        if (got != due) {
            tell(call, Long.toString(got), Long.toString(due));
        }
    }

    void is(String call, boolean got, boolean due) {
        is(call, got ? 1L : 0L, due ? 1L : 0L);
    }

    void is(String call, String got, String due) {
        looked++;
        if (!got.equals(due)) {
            tell(call, got, due);
        }
    }

    /** The instructions done, or the thrown class: a subclass of the one that is due is not as due. */
    static String outcome(CountedHeap heap, int n) {
        try {
            return Integer.toString(heap.run(n));
        } catch (RuntimeException e) {
            return e.getClass().getSimpleName();
        }
    }

    void runs(CountedHeap heap, int n, int due) {
        is("run(" + n + ")", outcome(heap, n), Integer.toString(due));
    }

    void faults(CountedHeap heap, int n, Class<?> due) {
        is("run(" + n + ")", outcome(heap, n), due.getSimpleName());
    }

    boolean allAsDue() {
        return wrong == 0;
    }

    void done() {
        System.out.println(looked + " answers looked at, " + wrong + " not as due");
        if (wrong != 0) {
            System.exit(1);
        }
    }

    private void tell(String call, String got, String due) {
        wrong++;
        System.out.println(about + ": " + call + " answered " + got + ", due is " + due);
    }
}
