/** Counts what is as due and tells what is not. */
final class Checks {
    private int passed;
    private int failed;

    void due(String what, long got, long want) {
        if (got == want) {
            passed++;
        } else {
            failed++;
            System.out.println("FAILED " + what + ": answered " + got + ", due is " + want);
        }
    }

    void holds(String what, boolean is) {
        due(what, is ? 1 : 0, 1);
    }

    int passed() {
        return passed;
    }

    int failed() {
        return failed;
    }

    /** Ends the test: a line that counts, and exit code 1 if one failed. */
    void end(String test) {
        System.out.println(test + ": " + passed + " as due, " + failed + " not");
        if (failed != 0) {
            System.exit(1);
        }
    }
}
