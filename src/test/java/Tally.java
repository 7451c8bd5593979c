/** Compares answers with what is due, prints those that differ, and ends a test's main method. */
final class Tally {
    private final String test;
    private String sentence = "";
    private int sentences = 0;
    private int checkedBefore = 0;
    private int checked = 0;
    private int wrong = 0;

    Tally(String test) {
        this.test = test;
    }

    /** What follows tests this sentence of the document; a sentence without an answer is a fault. */
    void sentence(String text) {
        endSentence();
        sentence = text;
        sentences++;
        checkedBefore = checked;
    }

    private void endSentence() {
        if (sentences > 0 && checked == checkedBefore) {
            wrong++;
            System.out.println(test + ": nothing was checked for \"" + sentence + "\"");
        }
    }

    void due(String what, long got, long want) {
        checked++;
        if (got != want) {
            wrong(what, String.valueOf(got), String.valueOf(want));
        }
    }

    void due(String what, boolean got, boolean want) {
        due(what, got ? 1L : 0L, want ? 1L : 0L);
    }

    void due(String what, String got, String want) {
        checked++;
        if (!got.equals(want)) {
            wrong(what, got, want);
        }
    }

    private void wrong(String what, String got, String want) {
        wrong++;
        String where = sentence.isEmpty() ? "" : "\"" + sentence + "\": ";
        System.out.println(test + ": " + where + what + " answered " + got + ", due is " + want);
    }

    int wrong() {
        return wrong;
    }

    void end() {
        endSentence();
        String of = sentences == 0 ? "" : " for " + sentences + " sentences";
        System.out.println(test + ": " + checked + " answers checked" + of + ", " + wrong + " wrong");
        if (wrong != 0 || checked == 0) {
            System.exit(1);
        }
    }
}
