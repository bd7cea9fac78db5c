/** Counts and prints the answers that are not as due, under the sentence of the document that asks for them. */
final class Due {
    private final String test;
    private String sentence = "";
    private int sinceSentence = 1;
    private int asked;
    private int wrong;

    Due(String test) {
        this.test = test;
    }

    /**
     * What is asked from here on is asked by these words of the document, which stand in its part called place.
     * SentencesTest looks whether they do, and whether any words of the document are left without a test.
     */
    void of(String place, String words) {
        endSentence();
        sentence = ", " + place + ", \"" + words + "\"";
        sinceSentence = 0;
    }

    void is(String call, long got, long want) {
        asked++;
        sinceSentence++;
        if (got != want) {
            wrong++;
            System.out.println(test + sentence + ": " + call + " answered " + got + ", due is " + want);
        }
    }

    void same(String what, String got, String want) {
        is(what, got.equals(want) ? 1 : 0, 1);
        if (!got.equals(want)) {
            System.out.println("  it is   " + got + "\n  due is  " + want);
        }
    }

    int wrong() {
        return wrong;
    }

    void end() {
        endSentence();
        System.out.println(test + ": " + asked + " answers, " + wrong + " not as due");
        if (wrong != 0 || asked == 0) {
            System.exit(1);
        }
    }

    private void endSentence() {
        if (sinceSentence == 0) {
            wrong++;
            System.out.println(test + sentence + ": nothing is asked by it");
        }
    }
}
