import java.util.function.LongSupplier;

/** Counts the answers that are not as due; a test's main ends with done(). */
final class Check {
    private static int wrong = 0;
    private static int asked = 0;

    private Check() {
    }

    static void due(String call, long got, long want) {
        asked++;
        if (got != want) {
            wrong++;
            System.out.println(call + " answered " + got + ", due is " + want);
        }
    }

    static void same(String what, String got, String want) {
        asked++;
        if (!got.equals(want)) {
            wrong++;
            System.out.println(what + " is\n  " + got + "\nbut due is\n  " + want);
        }
    }

    /** A call that refuses: its answer, and that nothing has changed. */
    static void refused(RentSizes x, String call, LongSupplier made, int want) {
        String before = Picture.of(x);
        due(call, made.getAsLong(), want);
        same("what stands after " + call, Picture.of(x), before);
    }

    static void throwsArithmetic(String call, LongSupplier made) {
        asked++;
        try {
            long got = made.getAsLong();
            wrong++;
            System.out.println(call + " answered " + got + ", due is an ArithmeticException");
        } catch (ArithmeticException e) {
            if (e.getClass() != ArithmeticException.class) {
                wrong++;
                System.out.println(call + " threw " + e.getClass());
            }
        }
    }

    static void done() {
        System.out.println(asked + " answers, " + wrong + " not as due");
        if (wrong != 0 || asked == 0) {
            System.exit(1);
        }
    }
}
