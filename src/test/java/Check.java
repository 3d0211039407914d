import java.util.Objects;

/** What the tests have in common: prints each wrong answer, and ends with exit code 1 if there was one. */
final class Check {
    interface Call {
        Object answer();
    }

    private static int checks = 0;
    private static int wrong = 0;

    private Check() {
    }

    static void due(String what, Object want, Call call) {
        Object got;
        try {
            got = call.answer();
        } catch (RuntimeException e) {
            got = thrown(e);
        }
        checks++;
        if (!Objects.equals(got, want)) {
            wrong++;
            System.out.println(what + " answered " + got + ", due is " + want);
        }
    }

    /** What was thrown, if the class threw it itself: the machine and its library must never throw in there. */
    static Object thrown(Throwable e) {
        StackTraceElement[] trace = e.getStackTrace();
        boolean own = trace.length > 0 && trace[0].getClassName().equals("ClaqueRow");
        return own ? e.getClass() : "the machine's " + e;
    }

    static void end(String test) {
        System.out.println(test + ": " + checks + " checks, " + wrong + " wrong");
        if (wrong != 0 || checks == 0) {
            System.exit(1);
        }
    }
}
