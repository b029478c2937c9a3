/** What the tests share: they hold answers to those that are due, and end with exit code 1 if one was wrong. */
final class Check {
    interface Call {
        Object run();
    }

    private static int held = 0;
    private static int wrong = 0;

    private Check() {
    }

    /** By equals of the boxed answers, so that 0.0 and -0.0 are different, and the type counts. */
    static void is(String what, Object want, Object got) {
        if (want.equals(got)) {
            held++;
        } else {
            wrong++;
            System.out.println("WRONG " + what + ": answered " + got + ", due is " + want);
        }
    }

    static void fails(String what, Class<? extends RuntimeException> want, Call call) {
        is(what, "throws " + want.getSimpleName(), outcome(call));
    }

    /** The answer of a call, or the name of what it throws. */
    static Object outcome(Call call) {
        try {
            return call.run();
        } catch (RuntimeException e) {
            return "throws " + e.getClass().getSimpleName();
        }
    }

    static void end(String test) {
        System.out.println(test + ": " + held + " answers held, " + wrong + " wrong");
        if (wrong != 0 || held == 0) {
            System.exit(1);
        }
    }
}
