/** Counts what is as it is due; a test's main ends with {@link #end}. */
final class Check {
    static final String INDEX = "throws.IndexOutOfBoundsException";
    static final String ARGUMENT = "throws.IllegalArgumentException";
    static final String STATE = "throws.IllegalStateException";

    interface Making {
        Divisionorder make();
    }

    interface Call {
        Object on(Divisionorder x);
    }

    private static int passed = 0;
    private static int failed = 0;

    private Check() {
    }

    static void same(String what, Object got, Object want) {
        if (String.valueOf(got).equals(String.valueOf(want))) {
            passed++;
        } else {
            failed++;
            System.out.println(what + " answered " + got + ", due is " + want);
        }
    }

    static String answer(Divisionorder x, Call call) {
        try {
            return String.valueOf(call.on(x));
        } catch (RuntimeException e) {
            return "throws." + e.getClass().getSimpleName();
        }
    }

    /** The call throws just what is due, and an object that had it answers as one that never had. */
    static void refuses(String what, String due, Making making, Call call) {
        Divisionorder touched = making.make();
        same(what, answer(touched, call), due);
        same("after " + what + " everything", Probe.answers(touched), Probe.answers(making.make()));
    }

    static void end(String test) {
        System.out.println(test + ": " + passed + " passed, " + failed + " failed");
        if (failed > 0) {
            System.exit(1);
        }
    }
}
