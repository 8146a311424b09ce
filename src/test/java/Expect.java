/** Counts and prints the answers that are not the ones due; finish() ends the test. */
final class Expect {
    private final String test;
    private int asked = 0;
    private int wrong = 0;

    Expect(String test) {
        this.test = test;
    }

    void equal(String what, long got, long due) {
        asked++;
        if (got != due) {
            wrong++;
            System.out.println(test + ": " + what + " answered " + got + ", due is " + due);
        }
    }

    void same(String what, Object got, Object due) {
        asked++;
        if (!got.equals(due)) {
            wrong++;
            System.out.println(test + ": " + what + " answered " + got + ", due is " + due);
        }
    }

    void yes(String what, boolean got) {
        equal(what, got ? 1 : 0, 1);
    }

    void no(String what, boolean got) {
        equal(what, got ? 1 : 0, 0);
    }

    int wrongSoFar() {
        return wrong;
    }

    void finish() {
        System.out.println(test + ": " + asked + " answers, " + wrong + " wrong");
        if (wrong != 0 || asked == 0) {
            System.exit(1);
        }
    }
}
