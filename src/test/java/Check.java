/** Counts the answers that are not the ones that are due, prints them, and ends a test. */
final class Check {
    private int asked = 0;
    private int wrong = 0;
    private int sentences = 0;
    private int askedBefore = 0;
    private String sentence = "";

    /** From here on, what is asked is asked about these words of the document. */
    void sentence(String words) {
        endSentence();
        sentence = words;
        askedBefore = asked;
        sentences++;
    }

    void due(String what, long got, long want) {
        asked++;
        if (got != want) {
            wrong++;
            String about = sentence.isEmpty() ? "" : "[" + sentence + "] ";
            System.out.println(about + what + " answered " + got + ", due is " + want);
        }
    }

    void due(String what, boolean got, boolean want) {
        due(what, got ? 1 : 0, want ? 1 : 0);
    }

    void end() {
        endSentence();
        String about = sentences == 0 ? "" : sentences + " sentences, ";
        System.out.println(about + (wrong == 0 ? asked + " answers are as due" : wrong + " answers are not as due"));
        if (wrong != 0) {
            System.exit(1);
        }
    }

    /** A sentence about which nothing was asked would pass whatever the program does. */
    private void endSentence() {
        if (!sentence.isEmpty() && asked == askedBefore) {
            wrong++;
            System.out.println("[" + sentence + "] nothing was asked about it");
        }
    }
}
