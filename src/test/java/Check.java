/** Counts answers that are not as due, and tells each. */
final class Check {
    interface Call {
        Object answer();
    }

    private static int wrong = 0;
    private static int asked = 0;

    private Check() {
    }

    static void due(String what, Object want, Object got) {
        asked++;
        if (!want.equals(got)) {
            wrong++;
            System.out.println(what + " answered " + got + ", due is " + want);
        }
    }

    /** The call throws the exception of this very class, and by a throw statement of its own. */
    static void dueThrow(String what, Class<? extends RuntimeException> want, Call call) {
        asked++;
        String got;
        try {
            got = String.valueOf(call.answer());
        } catch (RuntimeException e) {
            got = "throws." + e.getClass().getSimpleName() + (isFromMachine(e) ? " by the machine" : "");
            if (e.getClass() == want && !isFromMachine(e)) {
                return;
            }
        }
        wrong++;
        System.out.println(what + " answered " + got + ", due is throws." + want.getSimpleName());
    }

    static void dueNoIndex(String what, Call call) {
        dueThrow(what, ArrayIndexOutOfBoundsException.class, call);
    }

    static void dueIllegal(String what, Call call) {
        dueThrow(what, IllegalArgumentException.class, call);
    }

    // The machine's own text for an index is "Index 5 out of bounds for length 4", and none at all where it has
    // thrown often; the class's own exceptions all have a text.
    static boolean isFromMachine(RuntimeException e) {
        return e.getMessage() == null || e.getMessage().startsWith("Index ");
    }

    /** A test of one sentence of the document: it is told when the sentence does not hold. */
    static void sentence(String words, Runnable test) {
        int before = wrong;
        try {
            test.run();
        } catch (RuntimeException e) {
            wrong++;
            System.out.println("a call threw " + e);
        }
        if (wrong != before) {
            System.out.println("DOES NOT HOLD: " + words);
        }
    }

    static void end() {
        System.out.println(asked + " answers, " + wrong + " not as due");
        if (wrong != 0 || asked == 0) {
            System.exit(1);
        }
    }
}
