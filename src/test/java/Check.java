/** Counts the answers of a test that are not the ones that are due, and ends the test. */
final class Check {
    private final String test;
    private int calls;
    private int wrong;

    Check(String test) {
        this.test = test;
    }

    void due(String call, long got, long want) {
        calls++;
        if (got != want) {
            wrong++;
            System.out.println(test + ": " + call + " answered " + got + ", due is " + want);
        }
    }

    void holds(String what, boolean isSo) {
        calls++;
        if (!isSo) {
            wrong++;
            System.out.println(test + ": " + what + " does not hold");
        }
    }

    /** For calls that must change nothing, or must change back. */
    void sameState(String call, FishCounter shop, long digestBefore) {
        due("digest() after " + call, shop.digest(), digestBefore);
    }

    void finish() {
        System.out.println(test + ": " + calls + " answers, " + wrong + " wrong");
        if (calls == 0 || wrong != 0) {
            System.exit(1);
        }
    }
}
