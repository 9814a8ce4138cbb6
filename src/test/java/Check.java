/** Counts answers that are as due, and prints those that are not. */
final class Check {
    private int passed;
    private int failed;

    void due(String call, long got, long want) {
        tell(call, got == want, got, want);
    }

    void due(String call, boolean got, boolean want) {
        tell(call, got == want, got, want);
    }

    void dueReal(String call, double got, double want) {
        tell(call, Double.compare(got, want) == 0, got, want);
    }

    void dueText(String call, String got, String want) {
        tell(call, got.equals(want), got, want);
    }

    /** Asks for an exception of just that class, not of one below it. */
    void thrown(String call, Class<? extends RuntimeException> want, Runnable tried) {
        String got = "nothing";
        try {
            tried.run();
        } catch (RuntimeException e) {
            got = e.getClass().getName();
        }
        tell(call, got.equals(want.getName()), got, want.getName());
    }

    int passed() {
        return passed;
    }

    int failed() {
        return failed;
    }

    private void tell(String call, boolean isDue, Object got, Object want) {
        if (isDue) {
            passed++;
            return;
        }
        failed++;
        System.out.println(call + " answered " + got + ", due is " + want);
    }
}
