/** Counts the answers of one test program, prints the wrong ones, and ends it. */
final class Checks {
    // A broken program can get thousands of answers wrong; the first ones tell enough.
    private static final int MOST_PRINTED = 40;

    private long done = 0;
    private long wrong = 0;

    void same(String what, long got, long due) {
        done++;
        if (got != due) {
            report(what + " answered " + got + ", due is " + due);
        }
    }

    void same(String what, boolean got, boolean due) {
        same(what, got ? 1L : 0L, due ? 1L : 0L);
    }

    void same(String what, String got, String due) {
        done++;
        if (!got.equals(due)) {
            report(what + " gave [" + got + "], due is [" + due + "]");
        }
    }

    boolean failed() {
        return wrong > 0;
    }

    private void report(String line) {
        wrong++;
        if (wrong <= MOST_PRINTED) {
            System.out.println(line);
        }
    }

    void finish() {
        System.out.println((done - wrong) + " answers as due, " + wrong + " not");
        if (wrong > 0 || done == 0) {
            System.exit(1);
        }
    }
}
