/** Counts the answers that are due and those that are not, for the tests of the project. */
final class Due {
    private int passed;
    private int failed;

    void is(String call, long got, long want) {
        if (got == want) {
            passed++;
            return;
        }
        failed++;
        System.out.println(call + " answered " + got + ", due is " + want);
    }

    void holds(String what, boolean does) {
        is(what, does ? 1 : 0, 1);
    }

    /** The plain closing line, and the exit code 1 if anything failed. */
    void end() {
        System.out.println(passed + " passed, " + failed + " failed");
        if (failed != 0 || passed == 0) {
            System.exit(1);
        }
    }
}
