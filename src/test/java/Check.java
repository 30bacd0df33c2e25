import java.util.Objects;

/** Counts and prints the answers that are not as due. */
final class Check {
    private static int wrong = 0;
    private static String test = "";

    private Check() {
    }

    /** What is checked from here on belongs to this test. */
    static void begin(String name) {
        test = name + ": ";
    }

    static void equal(String what, Object got, Object want) {
        if (!Objects.equals(got, want)) {
            wrong++;
            System.out.println(test + what + " answered " + got + ", due is " + want);
        }
    }

    /** A subclass would be an exception that the document does not name, so the class must be the very one. */
    static void fails(String what, Class<? extends RuntimeException> want, Runnable call) {
        Class<?> got = null;
        try {
            call.run();
        } catch (RuntimeException e) {
            got = e.getClass();
        }
        equal(what + " throws", got, want);
    }

    static void end() {
        System.out.println(wrong == 0 ? "all answers are as due" : wrong + " answers are not as due");
        if (wrong != 0) {
            System.exit(1);
        }
    }
}
