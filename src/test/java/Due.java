import java.util.concurrent.Callable;

/** Holds each answer against the one that is due; a test ends by calling finish. */
final class Due {
    private static int asked = 0;
    private static int wrong = 0;

    static final String ARGUMENT = "throws.IllegalArgumentException";
    static final String STATE = "throws.IllegalStateException";
    static final String UNSUPPORTED = "throws.UnsupportedOperationException";
    static final String ARITHMETIC = "throws.ArithmeticException";
    static final String NO_ELEMENT = "throws.NoSuchElementException";

    private static final int MINUTES_FOR_A_TEST = 5;

    static {
        Thread watch = new Thread(Due::endWhatDoesNotEnd);
        watch.setDaemon(true);
        watch.start();
    }

    private Due() {
    }

    /** A call that fails to end is a fault as well, and must not hold up the tests for ever. */
    private static void endWhatDoesNotEnd() {
        try {
            Thread.sleep(MINUTES_FOR_A_TEST * 60_000L);
        } catch (InterruptedException e) {
            return;
        }
        System.out.println("the test has not ended in " + MINUTES_FOR_A_TEST + " minutes");
        Runtime.getRuntime().halt(1);
    }

    /** What a call answers, as a text; its exact exception behind "throws." if it throws. */
    static String answerOf(Callable<?> call) {
        try {
            return String.valueOf(call.call());
        } catch (Exception e) {
            // An exception class of another package keeps its long name, and is never the one that is due.
            return "throws." + e.getClass().getName().replaceFirst("^java\\.(lang|util)\\.", "");
        }
    }

    static void is(String call, Callable<?> got, Object want) {
        same(call, answerOf(got), String.valueOf(want));
    }

    static void same(String call, String got, String want) {
        asked++;
        if (!got.equals(want)) {
            wrong++;
            System.out.println(call + " answered " + got + ", due is " + want);
        }
    }

    static void finish() {
        System.out.println(asked + " answers asked, " + wrong + " not as due");
        if (wrong != 0 || asked == 0) {
            System.exit(1);
        }
    }
}
