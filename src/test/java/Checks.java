/** Counts the answers of one test program, prints the wrong ones, and ends it. */
final class Checks {
    // A broken program can get thousands of answers wrong; the first ones tell enough.
    private static final int MOST_PRINTED = 40;

    private long done = 0;
    private long wrong = 0;
    private String sentence = null;
    private long doneInSentence = 0;
    private boolean sentencePrinted = false;

    /** The checks from here on are the test of this sentence of the document, quoted word by word. */
    void sentence(String words) {
        endSentence();
        sentence = words;
        doneInSentence = 0;
        sentencePrinted = false;
    }

    void same(String what, long got, long due) {
        done++;
        doneInSentence++;
        if (got != due) {
            report(what + " answered " + got + ", due is " + due);
        }
    }

    void same(String what, boolean got, boolean due) {
        same(what, got ? 1L : 0L, due ? 1L : 0L);
    }

    void same(String what, String got, String due) {
        done++;
        doneInSentence++;
        if (!got.equals(due)) {
            report(what + " gave [" + got + "], due is [" + due + "]");
        }
    }

    boolean failed() {
        return wrong > 0;
    }

    private void endSentence() {
        if (sentence != null && doneInSentence == 0) {
            report("nothing was checked");
        }
    }

    private void report(String line) {
        wrong++;
        if (sentence != null && !sentencePrinted) {
            sentencePrinted = true;
            System.out.println("BROKEN: " + sentence);
        }
        if (wrong <= MOST_PRINTED) {
            System.out.println(line);
        }
    }

    void finish() {
        endSentence();
        System.out.println((done - wrong) + " answers as due, " + wrong + " not");
        if (wrong > 0 || done == 0) {
            System.exit(1);
        }
    }
}
