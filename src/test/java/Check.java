/** Compares answers with those that are due, prints each that differs, and ends the program. */
final class Check {
    private static int wrong = 0;
    private static int compared = 0;
    private static int sentences = 0;
    private static int comparedBefore = 0;
    private static String sentence = "";

    private Check() {
    }

    /** From here on the answers are those that this sentence of the document asks for. */
    static void sentence(String words) {
        endSentence();
        sentences++;
        sentence = words;
        comparedBefore = compared;
    }

    private static void endSentence() {
        if (sentences > 0 && compared == comparedBefore) {
            wrong++;
            System.out.println("nothing was compared for: " + sentence);
        }
    }

    private static void tell(String call, String got, String want) {
        wrong++;
        if (sentences > 0) {
            System.out.println("not as it says: " + sentence);
        }
        System.out.println(call + " answered " + got + ", due is " + want);
    }

    static void due(String call, long got, long want) {
        compared++;
        if (got != want) {
            tell(call, Long.toString(got), Long.toString(want));
        }
    }

    static void due(String call, boolean got, boolean want) {
        due(call, got ? 1 : 0, want ? 1 : 0);
    }

    static void due(String call, String got, String want) {
        compared++;
        if (!got.equals(want)) {
            tell(call, got, want);
        }
    }

    static boolean allWell() {
        return wrong == 0;
    }

    static void finish() {
        endSentence();
        if (sentences > 0) {
            System.out.println(sentences + " sentences");
        }
        System.out.println(compared + " answers compared, " + wrong + " wrong");
        if (wrong != 0 || compared == 0) {
            System.exit(1);
        }
    }
}
