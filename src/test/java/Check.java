import java.util.NoSuchElementException;

/** Counts what is not as it is due, for the tests beside it. */
final class Check {
    interface Call {
        void run();
    }

    static final Class<IllegalArgumentException> ARGUMENT = IllegalArgumentException.class;
    static final Class<IndexOutOfBoundsException> INDEX = IndexOutOfBoundsException.class;
    static final Class<UnsupportedOperationException> UNSUPPORTED = UnsupportedOperationException.class;
    static final Class<IllegalStateException> STATE = IllegalStateException.class;
    static final Class<NoSuchElementException> NONE = NoSuchElementException.class;
    static final Class<ArithmeticException> ARITHMETIC = ArithmeticException.class;

    private static int wrong = 0;
    private static int checked = 0;
    private static String sentence = "";

    private Check() {
    }

    /** Names the sentence of the document that the checks behind this are about. */
    static void sentence(String text) {
        sentence = text;
    }

    static void same(String what, long got, long due) {
        checked++;
        if (got != due) {
            tell(what + " answered " + got + ", due is " + due);
        }
    }

    static void same(String what, boolean got, boolean due) {
        same(what, got ? 1 : 0, due ? 1 : 0);
    }

    static void same(String what, String got, String due) {
        checked++;
        if (!got.equals(due)) {
            tell(what + " answered " + got + ", due is " + due);
        }
    }

    static void sameDouble(String what, double got, double due) {
        checked++;
        if (got != due) {
            tell(what + " answered " + got + ", due is " + due);
        }
    }

    static void fails(String what, Class<? extends RuntimeException> due, Call call) {
        checked++;
        try {
            call.run();
            tell(what + " threw nothing, due is " + due.getSimpleName());
        } catch (RuntimeException e) {
            if (e.getClass() != due) {
                tell(what + " threw " + e + ", due is " + due.getSimpleName());
            } else if (!isThrownByStatement(e)) {
                tell(what + " was thrown by the machine or the library: " + e);
            }
        }
    }

    static void passes(String what, Call call) {
        checked++;
        try {
            call.run();
        } catch (RuntimeException e) {
            tell(what + " threw " + e + ", due is nothing");
        }
    }

    /** The class itself has to throw, not a list that it asks or a divisor that it did not look at. */
    static boolean isThrownByStatement(Throwable e) {
        StackTraceElement[] trace = e.getStackTrace();
        return trace.length > 0 && trace[0].getClassName().startsWith("Courtyard")
                && !"/ by zero".equals(e.getMessage());
    }

    static void tell(String text) {
        wrong++;
        System.out.println(text + (sentence.isEmpty() ? "" : " [" + sentence + "]"));
    }

    static void end() {
        System.out.println(checked + " checks, " + wrong + " wrong");
        if (wrong != 0 || checked == 0) {
            System.exit(1);
        }
    }
}
