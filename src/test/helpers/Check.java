/** Counts answers that are not as due, and prints each. */
final class Check {
    private static final int SHOWN = 40;
    private int asked;
    private int wrong;

    void same(String what, long got, long want) {
        report(what, got == want, Long.toString(got), Long.toString(want));
    }

    void same(String what, boolean got, boolean want) {
        report(what, got == want, Boolean.toString(got), Boolean.toString(want));
    }

    void same(String what, String got, String want) {
        report(what, got.equals(want), "<" + got + ">", "<" + want + ">");
    }

    private void report(String what, boolean right, String got, String want) {
        asked++;
        if (right) {
            return;
        }
        wrong++;
        if (wrong <= SHOWN) {
            System.out.println(what + " answered " + got + ", due is " + want);
        }
    }

    /** Ends the test: exit code 1 if an answer was wrong, or nothing was asked at all. */
    void finish() {
        System.out.println(wrong + " of " + asked + " answers are not as due");
        if (wrong != 0 || asked == 0) {
            System.exit(1);
        }
    }
}
