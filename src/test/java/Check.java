import java.util.function.Supplier;

/** Counts the answers that are not as due, and ends a test with exit code 1 if there was one. */
final class Check {
    private static int wrong = 0;
    private static int checked = 0;

    private Check() {
    }

    /** Checks an answer; the values are compared as objects, so their kinds count too. */
    static void is(String what, Object want, Supplier<Object> call) {
        checked++;
        Object got;
        try {
            got = call.get();
        } catch (RuntimeException e) {
            got = e.getClass();
        }
        if (!want.equals(got)) {
            wrong++;
            System.out.println(what + " answered " + got + ", due is " + want);
        }
    }

    static void same(String what, Object want, Object got) {
        is(what, want, () -> got);
    }

    /** Checks that a call throws an exception of exactly this class. */
    static void fails(String what, Class<? extends RuntimeException> want, Supplier<Object> call) {
        is(what, want, call);
    }

    static void end() {
        if (wrong > 0 || checked == 0) {
            System.out.println(wrong + " of " + checked + " answers are not as due");
            System.exit(1);
        }
    }
}
