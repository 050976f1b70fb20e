/** Counts answers that are not as due, and tells each. */
final class Check {
    interface Call {
        Object answer();
    }

    private static int wrong = 0;
    private static int asked = 0;

    private Check() {
    }

    static void due(String what, Object want, Object got) {
        asked++;
        if (!want.equals(got)) {
            wrong++;
            System.out.println(what + " answered " + got + ", due is " + want);
        }
    }

    /** The call throws the exception of this very class, and by a throw statement of its own. */
    static void dueThrow(String what, Class<? extends RuntimeException> want, Call call) {
        asked++;
        String got;
        try {
            got = String.valueOf(call.answer());
        } catch (RuntimeException e) {
            got = "throws." + e.getClass().getSimpleName();
            if (e.getClass() == want && !isFromMachine(e)) {
                return;
            }
        }
        wrong++;
        System.out.println(what + " answered " + got + ", due is throws." + want.getSimpleName());
    }

    // The machine's own text for an index: "Index 5 out of bounds for length 4".
    static boolean isFromMachine(RuntimeException e) {
        return e.getMessage() != null && e.getMessage().startsWith("Index ");
    }

    static void end() {
        System.out.println(asked + " answers, " + wrong + " not as due");
        if (wrong != 0 || asked == 0) {
            System.exit(1);
        }
    }
}
