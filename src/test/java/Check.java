/** Counts the answers that are not as due, and prints each; shared by the tests beside it. */
final class Check {
    private final String test;
    private String sentence = "";
    private int asked;
    private int wrong;

    Check(String test) {
        this.test = test;
    }

    /** What follows holds to these words of the document; a wrong answer is printed with them. */
    void says(String where, String words) {
        sentence = " [" + where + ": " + words + "]";
    }

    void due(String call, int got, int want) {
        asked++;
        if (got != want) {
            wrong++;
            System.out.println(test + ": " + call + " answered " + got + ", due is " + want + sentence);
        }
    }

    void holds(String claim, boolean held) {
        due(claim, held ? 1 : 0, 1);
    }

    /** All the counts of now, in the order of noted()'s numbers. */
    void counts(String when, PageStore x, int... want) {
        for (int what = 0; what < want.length; what++) {
            due(when + ": noted(0, " + what + ")", x.noted(0, what), want[what]);
        }
    }

    void end() {
        System.out.println(test + ": " + asked + " answers, " + wrong + " not as due");
        if (wrong != 0) {
            System.exit(1);
        }
    }
}
