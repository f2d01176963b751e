import java.util.Objects;

/** Counts what was checked, and tells what was not as due. */
final class Check {
    static final String INDEX = "throws.IndexOutOfBoundsException";
    static final String ARGUMENT = "throws.IllegalArgumentException";

    private static int passed = 0;
    private static int failed = 0;
    private static boolean isFaulty = false;

    private Check() {
    }

    interface Call {
        Object made();
    }

    /** An exception counts as an answer, by its exact class. */
    static Object answer(Call call) {
        try {
            return call.made();
        } catch (RuntimeException thrown) {
            return "throws." + thrown.getClass().getSimpleName();
        }
    }

    static void due(String what, Object due, Call call) {
        Object got = answer(call);
        if (!Objects.equals(got, due)) {
            isFaulty = true;
            System.out.println("  " + what + " answered " + got + ", due is " + due);
        }
    }

    static void test(String name, Runnable body) {
        isFaulty = false;
        try {
            body.run();
        } catch (RuntimeException thrown) {
            isFaulty = true;
            System.out.println("  " + thrown);
        }
        passed += isFaulty ? 0 : 1;
        failed += isFaulty ? 1 : 0;
        if (isFaulty) {
            System.out.println("FAILED: " + name);
        }
    }

    /** Tells whether all passed. */
    static boolean tell() {
        System.out.println("project: " + passed + " passed, " + failed + " failed");
        return failed == 0;
    }
}
