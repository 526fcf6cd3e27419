/** Counts what is and what is not as due, and ends a test with the exit code that tells it. */
final class Due {
    private static int right = 0;
    private static int wrong = 0;

    private Due() {
    }

    /** One call, or several, that may throw. */
    interface Calls {
        void make();
    }

    static void is(String what, Object got, Object want) {
        if (want.equals(got)) {
            right++;
        } else {
            wrong++;
            System.out.println(what + " answered " + got + ", due is " + want);
        }
    }

    static void index(String what, Calls calls) {
        is(what, thrownBy(calls), "IndexOutOfBoundsException");
    }

    static void argument(String what, Calls calls) {
        is(what, thrownBy(calls), "IllegalArgumentException");
    }

    static void state(String what, Calls calls) {
        is(what, thrownBy(calls), "IllegalStateException");
    }

    private static String thrownBy(Calls calls) {
        try {
            calls.make();
            return "nothing";
        } catch (RuntimeException e) {
            return e.getClass().getSimpleName();
        }
    }

    static void end(String test) {
        System.out.println(test + ": " + right + " right, " + wrong + " wrong");
        if (wrong > 0 || right == 0) {
            System.exit(1);
        }
    }
}
