import java.lang.reflect.InvocationTargetException;
import java.lang.reflect.Method;
import java.util.Arrays;
import java.util.Comparator;

/** Counts what is not as due; a test's main ends with exit code 1 if there was anything. */
final class Check {
    static final String IAE = "IllegalArgumentException";
    static final String ISE = "IllegalStateException";

    interface Call {
        void run();
    }

    private static int wrong = 0;
    private static String part = "";

    private Check() {
    }

    // Every method whose name begins with "promise", so that no test can be written and not run.
    static void all(Class<?> tests) {
        Method[] methods = tests.getDeclaredMethods();
        Arrays.sort(methods, Comparator.comparing(Method::getName));
        int ran = 0;
        for (Method method : methods) {
            if (method.getName().startsWith("promise")) {
                part(method.getName());
                run(method);
                ran++;
            }
        }
        part(tests.getName());
        due("there are tests", ran > 0, true);
        end();
    }

    private static void run(Method method) {
        try {
            method.invoke(null);
        } catch (InvocationTargetException e) {
            tell("ended by " + e.getCause());
            e.getCause().printStackTrace(System.out);
        } catch (IllegalAccessException e) {
            tell("can't be called");
        }
    }

    static void part(String name) {
        part = name;
    }

    static void due(String what, long got, long want) {
        if (got != want) {
            tell(what + " answered " + got + ", due is " + want);
        }
    }

    static void due(String what, boolean got, boolean want) {
        due(what, got ? 1 : 0, want ? 1 : 0);
    }

    static void due(String what, String got, String want) {
        if (!got.equals(want)) {
            tell(what + " answered " + got + ", due is " + want);
        }
    }

    static void iae(String what, Call call) {
        due(what + " throws", outcome(call), IAE);
    }

    static void ise(String what, Call call) {
        due(what + " throws", outcome(call), ISE);
    }

    static String outcome(Call call) {
        try {
            call.run();
            return "nothing";
        } catch (RuntimeException e) {
            return e.getClass().getSimpleName();
        }
    }

    static void tell(String fault) {
        wrong++;
        System.out.println(part + ": " + fault);
    }

    static void end() {
        if (wrong > 0) {
            System.out.println(wrong + " wrong");
            System.exit(1);
        }
    }
}
