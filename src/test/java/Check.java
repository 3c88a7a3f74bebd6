/** Counts the answers that are not as due, prints each, and ends a test with exit code 1 if there was one. */
final class Check {
    private static int wrong;
    private static int seen;
    private static int sentences;
    private static int seenBefore;
    private static String sentence = "";

    private Check() {
    }

    /** Names the document's sentence that the answers from here on are about; each must have an answer. */
    static void sentence(String where, String words) {
        endSentence();
        sentences++;
        sentence = where + ", '" + words + "'";
    }

    static void due(String what, long got, long want) {
        seen++;
        if (got != want) {
            wrong++;
            System.out.println((sentence.isEmpty() ? "" : sentence + ": ")
                + what + " answered " + got + ", due is " + want);
        }
    }

    static void due(String what, boolean got, boolean want) {
        due(what, got ? 1L : 0L, want ? 1L : 0L);
    }

    static void end() {
        endSentence();
        System.out.println(seen + " answers to " + sentences + " sentences, " + wrong + " of them not as due");
        if (wrong != 0 || seen == 0) {
            System.exit(1);
        }
    }

    private static void endSentence() {
        if (!sentence.isEmpty() && seen == seenBefore) {
            wrong++;
            System.out.println(sentence + " was not asked about");
        }
        seenBefore = seen;
    }
}
