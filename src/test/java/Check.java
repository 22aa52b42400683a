/** Counts the answers that are not due; a test ends with exit code 1 if there was one. */
final class Check {
    private static int made = 0;
    private static int wrong = 0;

    /** A call that may throw what it likes. */
    interface Call {
        Object answer();
    }

    private Check() {
    }

    /** The answer as text; one that is thrown is told by the exact class of the exception. */
    static String told(Call call) {
        try {
            return String.valueOf(call.answer());
        } catch (RuntimeException e) {
            return "throws." + e.getClass().getSimpleName();
        }
    }

    static void due(String what, Object want, Call call) {
        String got = told(call);
        made++;
        if (!got.equals(String.valueOf(want))) {
            wrong++;
            System.out.println(what + " answered " + got + ", due is " + want);
        }
    }

    static void bounds(String what, Call call) {
        due(what, "throws.IndexOutOfBoundsException", call);
    }

    static void argument(String what, Call call) {
        due(what, "throws.IllegalArgumentException", call);
    }

    static void state(String what, Call call) {
        due(what, "throws.IllegalStateException", call);
    }

    static void unsupported(String what, Call call) {
        due(what, "throws.UnsupportedOperationException", call);
    }

    static void noElement(String what, Call call) {
        due(what, "throws.NoSuchElementException", call);
    }

    static void end() {
        System.out.println(made + " answers looked at, " + wrong + " not as due");
        if (wrong > 0) {
            System.exit(1);
        }
    }
}
