/** Counts the answers that are not the ones that are due, and tells of each. */
final class Due {
    private String sentence = "";
    private int sentences = 0;
    private int askedForSentence = 0;
    private int asked = 0;
    private int wrong = 0;

    /** Names the sentence of the document that the answers from here on are asked for. */
    void sentence(String words) {
        endSentence();
        sentence = words;
        sentences++;
    }

    void is(String call, long got, long want) {
        count();
        if (got != want) {
            tell(call + " answered " + got + ", due is " + want);
        }
    }

    void is(String call, boolean got, boolean want) {
        is(call, got ? 1 : 0, want ? 1 : 0);
    }

    void is(String call, String got, String want) {
        count();
        if (!got.equals(want)) {
            tell(call + " answered \"" + got + "\", due is \"" + want + "\"");
        }
    }

    /** Ends the test: with exit code 1 if an answer was wrong or none was asked for. */
    void end() {
        endSentence();
        String of = sentences == 0 ? "" : " for " + sentences + " sentences";
        System.out.println(asked + " answers" + of + ", " + wrong + " of them not as due");
        if (wrong != 0 || asked == 0) {
            System.exit(1);
        }
    }

    private void count() {
        asked++;
        askedForSentence++;
    }

    private void tell(String what) {
        wrong++;
        System.out.println(sentence.isEmpty() ? what : "\"" + sentence + "\": " + what);
    }

    /** A sentence that nothing was asked for would pass unseen. */
    private void endSentence() {
        if (sentences > 0 && askedForSentence == 0) {
            tell("no answer was asked for");
        }
        askedForSentence = 0;
    }
}
