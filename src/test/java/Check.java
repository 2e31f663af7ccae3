/** Counts the answers of a test that are due, and prints the ones that are not. */
final class Check {
    private final String name;
    private int passed = 0;
    private int failed = 0;

    Check(String name) {
        this.name = name;
    }

    void same(String call, long got, long due) {
        judge(got == due, call + " answered " + got + ", due is " + due);
    }

    void sameDouble(String call, double got, double due) {
        judge(Double.compare(got, due) == 0, call + " answered " + got + ", due is " + due);
    }

    void holds(String claim, boolean so) {
        judge(so, claim + " does not hold");
    }

    private void judge(boolean right, String complaint) {
        if (right) {
            passed++;
        } else {
            failed++;
            if (failed <= 20) {
                System.out.println(name + ": " + complaint);
            }
        }
    }

    /** Ends the test: with exit code 1 if an answer was wrong, or none was looked at. */
    void end() {
        System.out.println(name + ": " + passed + " answers as due, " + failed + " not");
        if (failed != 0 || passed == 0) {
            System.exit(1);
        }
    }
}
