/** Counts the answers that are not as due, each told under the sentence that it belongs to; a test's main ends with done(). */
final class Check {
    private static String sentence = "";
    private static int sentences = 0;
    private static int asked = 0;
    private static int wrong = 0;

    private Check() {
    }

    /** The words of the document that the checks behind this one are about. */
    static void sentence(String words) {
        sentence = words;
        sentences++;
    }

    static void due(String call, long got, long want) {
        asked++;
        if (got != want) {
            fault(call + " answered " + got + ", due is " + want);
        }
    }

    static void same(String what, String got, String want) {
        asked++;
        if (!got.equals(want)) {
            fault(what + " is\n  " + got + "\nbut due is\n  " + want);
        }
    }

    static void fault(String told) {
        wrong++;
        System.out.println("\"" + sentence + "\": " + told);
    }

    static void done() {
        System.out.println(sentences + " sentences, " + asked + " answers, " + wrong + " not as due");
        if (wrong != 0 || asked == 0) {
            System.exit(1);
        }
    }
}
