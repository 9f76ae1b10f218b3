import java.util.function.Supplier;

/** Counts the answers that are not as due; each test ends with end(). */
final class Check {
    private static int made = 0;
    private static int wrong = 0;

    private Check() {
    }

    static void is(String what, Object want, Object got) {
        made++;
        if (!want.equals(got)) {
            wrong++;
            System.out.println(what + " answered " + got + ", due is " + want);
        }
    }

    /** The call throws just this exception, by a throw statement of Tubepost, and changes nothing. */
    static void throwsIt(Tubepost x, String what, Class<? extends RuntimeException> want, Supplier<?> call) {
        String before = State.of(x);
        is(what, "throws." + want.getSimpleName(), answer(call));
        is(what + " leaves the state", before, State.of(x));
    }

    /** The call answers so, and changes nothing. */
    static void reads(Tubepost x, String what, Object want, Supplier<?> call) {
        String before = State.of(x);
        is(what, String.valueOf(want), answer(call));
        is(what + " leaves the state", before, State.of(x));
    }

    /** What a call answers, as a text; an exception that the machine or the library threw is told as such. */
    static String answer(Supplier<?> call) {
        try {
            return String.valueOf(call.get());
        } catch (RuntimeException e) {
            StackTraceElement[] trace = e.getStackTrace();
            boolean own = trace.length == 0 || trace[0].getClassName().startsWith("Tubepost")
                    || trace[0].getClassName().startsWith("Model");
            boolean divided = "/ by zero".equals(e.getMessage());
            return (own && !divided ? "throws." : "THE MACHINE throws.") + e.getClass().getSimpleName();
        }
    }

    static void end() {
        System.out.println(made + " answers, " + wrong + " not as due");
        if (wrong != 0 || made == 0) {
            System.exit(1);
        }
    }
}
