import java.util.Arrays;

/** Compares answers with those that are due, and ends a test with exit code 1 if one was wrong. */
final class Due {
    private static int wrong = 0;
    private static String sentence = "";
    private static String printed = "";

    private Due() {
    }

    /**
     * The document's words, as they stand there, that the answers from here on are due to.
     * SentencesTest looks for these words in the document.
     */
    static void sentence(String words) {
        sentence = words;
    }

    static void due(String call, long got, long want) {
        if (got != want) {
            fail(call + " answered " + got + ", due is " + want);
        }
    }

    static void due(String what, int[] got, int[] want) {
        if (!Arrays.equals(got, want)) {
            fail(what + ": " + Arrays.toString(got) + ", due is " + Arrays.toString(want));
        }
    }

    static void due(String what, boolean holds) {
        if (!holds) {
            fail(what + " does not hold");
        }
    }

    static void fail(String message) {
        wrong++;
        if (!printed.equals(sentence)) {
            printed = sentence;
            System.out.println("\"" + sentence + "\"");
        }
        System.out.println("    " + message);
    }

    static boolean hasFailed() {
        return wrong != 0;
    }

    static void end() {
        if (wrong != 0) {
            System.out.println(wrong + " answers are not as due");
            System.exit(1);
        }
    }
}
