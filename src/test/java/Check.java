/** Counts answers that are not as due; a test ends with exit code 1 when there was one. */
final class Check {
    private static final int MOST_LINES = 50;

    private static int looked = 0;
    private static int wrong = 0;
    private static int sentences = 0;
    private static String sentence = "";

    private Check() {
    }

    /**
     * A test of its own for one sentence of the document: where it comes from, its words and the
     * test. What is wrong inside is told with both, and a throw spoils this sentence alone.
     */
    static void sentence(String from, String words, Runnable test) {
        sentences++;
        sentence = from + " (" + words + "): ";
        int before = looked;
        try {
            test.run();
        } catch (RuntimeException | Error thrown) {
            tellWrong("threw " + thrown);
        }
        if (looked == before) {
            tellWrong("looked at nothing");
        }
        sentence = "";
    }

    static void due(String call, long got, long want) {
        looked++;
        if (got != want) {
            tellWrong(call + " answered " + got + ", due is " + want);
        }
    }

    static void due(String call, boolean got, boolean want) {
        due(call, got ? 1 : 0, want ? 1 : 0);
    }

    static void due(String what, String got, String want) {
        looked++;
        if (!got.equals(want)) {
            tellWrong(what + " is " + got + ", due is " + want);
        }
    }

    private static void tellWrong(String what) {
        wrong++;
        if (wrong <= MOST_LINES) {
            System.out.println(sentence + what);
        }
    }

    static void end() {
        String of = sentences > 0 ? " for " + sentences + " sentences" : "";
        System.out.println(looked + " answers" + of + ", " + wrong + " of them not as due");
        if (wrong != 0) {
            System.exit(1);
        }
    }
}
