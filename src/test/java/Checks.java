/** Counts the checks that hold and tells those that do not. */
final class Checks {
    private int passed;
    private int failed;

    void due(String call, long got, long want) {
        tell(got == want, call, String.valueOf(got), String.valueOf(want));
    }

    void due(String call, double got, double want) {
        tell(got == want, call, String.valueOf(got), String.valueOf(want));
    }

    void due(String call, String got, String want) {
        tell(got.equals(want), call, got, want);
    }

    private void tell(boolean holds, String call, String got, String want) {
        if (holds) {
            passed++;
        } else {
            failed++;
            System.out.println(call + " answered " + got + ", due is " + want);
        }
    }

    boolean anyFailed() {
        return failed > 0;
    }

    void end(String test) {
        System.out.println(test + ": " + passed + " checks hold, " + failed + " do not");
        if (failed > 0) {
            System.exit(1);
        }
    }
}
