/** Collects the answers of a test: prints each one that is not due, and ends the test. */
final class Check {
    private int calls = 0;
    private int wrong = 0;

    void due(String call, long got, long want) {
        calls++;
        if (got != want) {
            wrong++;
            System.out.println(call + " answered " + got + ", due is " + want);
        }
    }

    void holds(String what, boolean holds) {
        calls++;
        if (!holds) {
            wrong++;
            System.out.println("does not hold: " + what);
        }
    }

    int wrong() {
        return wrong;
    }

    /** Ends the program with exit code 1 if an answer was wrong, or if nothing was asked at all. */
    void end() {
        System.out.println(calls + " answers, " + wrong + " of them wrong");
        if (wrong != 0 || calls == 0) {
            System.exit(1);
        }
    }
}
