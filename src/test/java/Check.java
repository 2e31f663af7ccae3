/** Counts the answers of a test that are due, and prints the ones that are not. */
final class Check {
    private static final int MOST_COMPLAINTS = 20;

    private final String name;
    private int passed = 0;
    private int failed = 0;
    private String sentence = null;
    private int passedBefore = 0;
    private int failedBefore = 0;

    Check(String name) {
        this.name = name;
    }

    /** What is looked at from here on belongs to these words, which must stand under the heading. */
    void sentence(String heading, String words) {
        endSentence();
        holds("that '" + heading + "' says: " + words, Doc.says(heading, words));
        sentence = heading + ": " + words;
        passedBefore = passed;
        failedBefore = failed;
    }

    void same(String call, long got, long due) {
        judge(got == due, call, got, due);
    }

    void sameDouble(String call, double got, double due) {
        judge(Double.compare(got, due) == 0, call, got, due);
    }

    void sameText(String call, String got, String due) {
        judge(got.equals(due), call, got, due);
    }

    void holds(String claim, boolean so) {
        judge(so, claim, so, true);
    }

    private void judge(boolean right, String call, Object got, Object due) {
        if (right) {
            passed++;
        } else {
            failed++;
            if (failed <= MOST_COMPLAINTS) {
                System.out.println(name + ": " + call + " answered " + got + ", due is " + due);
            }
        }
    }

    private void endSentence() {
        if (sentence == null) {
            return;
        }
        if (failed > failedBefore) {
            System.out.println(name + ": BROKEN is " + sentence);
        } else if (passed == passedBefore) {
            failed++;
            System.out.println(name + ": NOT LOOKED AT is " + sentence);
        }
        sentence = null;
    }

    /** Ends the test: with exit code 1 if an answer was wrong, or none was looked at. */
    void end() {
        endSentence();
        System.out.println(name + ": " + passed + " answers as due, " + failed + " not");
        if (failed != 0 || passed == 0) {
            System.exit(1);
        }
    }
}
