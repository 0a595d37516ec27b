/** Counts what is not as due; a test's main ends with exit code 1 if there was anything. */
final class Check {
    static final String IAE = "IllegalArgumentException";
    static final String ISE = "IllegalStateException";

    interface Call {
        void run();
    }

    private static int wrong = 0;
    private static String part = "";

    private Check() {
    }

    static void part(String name) {
        part = name;
    }

    static void due(String what, long got, long want) {
        if (got != want) {
            tell(what + " answered " + got + ", due is " + want);
        }
    }

    static void due(String what, boolean got, boolean want) {
        due(what, got ? 1 : 0, want ? 1 : 0);
    }

    static void due(String what, String got, String want) {
        if (!got.equals(want)) {
            tell(what + " answered " + got + ", due is " + want);
        }
    }

    static void iae(String what, Call call) {
        due(what + " throws", outcome(call), IAE);
    }

    static void ise(String what, Call call) {
        due(what + " throws", outcome(call), ISE);
    }

    static String outcome(Call call) {
        try {
            call.run();
            return "nothing";
        } catch (RuntimeException e) {
            return e.getClass().getSimpleName();
        }
    }

    static void tell(String fault) {
        wrong++;
        System.out.println(part + ": " + fault);
    }

    static void end() {
        if (wrong > 0) {
            System.out.println(wrong + " wrong");
            System.exit(1);
        }
    }
}
