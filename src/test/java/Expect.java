/** Counts the answers that are not as due, and prints each with the sentence that it breaks. */
final class Expect {
    private int wrong = 0;
    private int asked = 0;
    private int sentences = 0;
    private int askedAtSentence = 0;
    private String sentence = "";

    /** The document's words that the looks from here on are about. */
    void sentence(String words) {
        endSentence();
        sentences++;
        askedAtSentence = asked;
        sentence = "\"" + words + "\": ";
    }

    private void endSentence() {
        if (sentences > 0 && asked == askedAtSentence) {
            wrong++;
            System.out.println(sentence + "nothing was looked at");
        }
    }

    void due(String call, long got, long want) {
        asked++;
        if (got != want) {
            wrong++;
            System.out.println(sentence + call + " answered " + got + ", due is " + want);
        }
    }

    void holds(String what, boolean held) {
        asked++;
        if (!held) {
            wrong++;
            System.out.println(sentence + "does not hold: " + what);
        }
    }

    int wrong() {
        return wrong;
    }

    void end() {
        endSentence();
        String told = sentences == 0 ? "" : " for " + sentences + " sentences";
        System.out.println(asked + " looked at" + told + ", " + wrong + " not as due");
        if (wrong != 0 || asked == 0) {
            System.exit(1);
        }
    }
}
