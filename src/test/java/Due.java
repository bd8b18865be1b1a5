/** Counts the answers that are not as due, and ends a test. */
final class Due {
    private static String sentence = "";
    private static int sentences = 0;
    private static int wrong = 0;
    private static int asked = 0;
    private static int askedBefore = 0;

    private Due() {
    }

    /** The words of the document that the answers from here on are about. */
    static void sentence(String words) {
        endSentence();
        sentence = "[" + words + "] ";
        sentences++;
    }

    static void due(String call, long got, long want) {
        due(call, String.valueOf(got), String.valueOf(want));
    }

    static void due(String call, boolean got, boolean want) {
        due(call, String.valueOf(got), String.valueOf(want));
    }

    static void due(String call, String got, String want) {
        asked++;
        if (!got.equals(want)) {
            wrong++;
            System.out.println(sentence + call + " answered " + got + ", due is " + want);
        }
    }

    static void end() {
        endSentence();
        String what = sentences == 0 ? "" : sentences + " sentences, ";
        System.out.println(what + asked + " answers, " + wrong + " not as due");
        if (wrong != 0) {
            System.exit(1);
        }
    }

    /** A sentence that nothing was asked about is not tested. */
    private static void endSentence() {
        if (!sentence.isEmpty() && asked == askedBefore) {
            wrong++;
            System.out.println(sentence + "has no test");
        }
        askedBefore = asked;
    }
}
