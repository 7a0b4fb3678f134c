/** Counts what is not as it is due, for the tests beside it. */
final class Check {
    interface Call {
        void run();
    }

    private static int wrong = 0;
    private static int checked = 0;

    private Check() {
    }

    static void same(String what, long got, long due) {
        checked++;
        if (got != due) {
            tell(what + " answered " + got + ", due is " + due);
        }
    }

    static void same(String what, boolean got, boolean due) {
        same(what, got ? 1 : 0, due ? 1 : 0);
    }

    static void sameDouble(String what, double got, double due) {
        checked++;
        if (got != due) {
            tell(what + " answered " + got + ", due is " + due);
        }
    }

    static void fails(String what, Class<? extends RuntimeException> due, Call call) {
        checked++;
        try {
            call.run();
            tell(what + " threw nothing, due is " + due.getSimpleName());
        } catch (RuntimeException e) {
            if (e.getClass() != due) {
                tell(what + " threw " + e + ", due is " + due.getSimpleName());
            }
        }
    }

    static void tell(String text) {
        wrong++;
        System.out.println(text);
    }

    static void end() {
        System.out.println(checked + " checks, " + wrong + " wrong");
        if (wrong != 0 || checked == 0) {
            System.exit(1);
        }
    }
}
