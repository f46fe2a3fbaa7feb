/** Counts answers that are not as due, and prints each under the document's sentence that asks for it. */
final class Check {
    private static final int SHOWN = 40;
    private String sentence = "";
    private int asked;
    private int askedHere = 1;
    private int wrong;

    /** What is asked from here on would be wrong if this sentence of the document were broken. EverySentenceTest collects them. */
    void sentence(String quote) {
        closeSentence();
        sentence = quote;
        askedHere = 0;
    }

    private void closeSentence() {
        if (askedHere == 0) {
            wrong++;
            System.out.println("nothing was asked under: " + sentence);
        }
    }

    void same(String what, long got, long want) {
        report(what, got == want, Long.toString(got), Long.toString(want));
    }

    void same(String what, boolean got, boolean want) {
        report(what, got == want, Boolean.toString(got), Boolean.toString(want));
    }

    void same(String what, String got, String want) {
        report(what, got.equals(want), "<" + got + ">", "<" + want + ">");
    }

    private void report(String what, boolean right, String got, String want) {
        asked++;
        askedHere++;
        if (right) {
            return;
        }
        wrong++;
        if (wrong <= SHOWN) {
            System.out.println((sentence.isEmpty() ? "" : "[" + sentence + "] ") + what + " answered " + got + ", due is " + want);
        }
    }

    /** Ends the test: exit code 1 if an answer was wrong, or nothing was asked at all. */
    void finish() {
        closeSentence();
        System.out.println(wrong + " of " + asked + " answers are not as due");
        if (wrong != 0 || asked == 0) {
            System.exit(1);
        }
    }
}
