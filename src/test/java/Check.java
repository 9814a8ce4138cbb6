import java.util.TreeMap;

/** Counts answers that are as due, and prints those that are not; and counts how often each promise was asked. */
final class Check {
    private static final int PROMISES = 41;

    private final TreeMap<Integer, Integer> askedOf = new TreeMap<>();
    private int passed;
    private int failed;

    void due(String call, long got, long want) {
        tell(call, got == want, got, want);
    }

    void due(String call, boolean got, boolean want) {
        tell(call, got == want, got, want);
    }

    void dueReal(String call, double got, double want) {
        tell(call, Double.compare(got, want) == 0, got, want);
    }

    void dueText(String call, String got, String want) {
        tell(call, got.equals(want), got, want);
    }

    /** Asks for an exception of just that class, not of one below it, and that the machine did not throw it. */
    void thrown(String call, Class<? extends RuntimeException> want, Runnable tried) {
        String got = "nothing";
        try {
            tried.run();
        } catch (RuntimeException e) {
            boolean isOfMachine = "/ by zero".equals(e.getMessage());
            got = isOfMachine ? "the machine's throw" : e.getClass().getName();
        }
        tell(call, got.equals(want.getName()), got, want.getName());
    }

    /** A test of a promise begins its text with the promise's number and a colon. */
    void eachPromiseWasAsked() {
        for (int promise = 1; promise <= PROMISES; promise++) {
            due("tests of promise " + promise, askedOf.getOrDefault(promise, 0) > 0, true);
        }
    }

    int passed() {
        return passed;
    }

    int failed() {
        return failed;
    }

    private void tell(String call, boolean isDue, Object got, Object want) {
        int colon = call.indexOf(':');
        if (colon > 0 && call.substring(0, colon).chars().allMatch(Character::isDigit)) {
            askedOf.merge(Integer.parseInt(call.substring(0, colon)), 1, Integer::sum);
        }
        if (isDue) {
            passed++;
            return;
        }
        failed++;
        System.out.println(call + " answered " + got + ", due is " + want);
    }
}
