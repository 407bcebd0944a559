/** Counts what is as it is due; a test's main ends with {@link #end}. */
final class Check {
    static final String INDEX = "throws.IndexOutOfBoundsException";
    static final String ARGUMENT = "throws.IllegalArgumentException";
    static final String STATE = "throws.IllegalStateException";

    interface Making {
        Divisionorder make();
    }

    interface Call {
        Object on(Divisionorder x);
    }

    interface NumberCall {
        Object on(Divisionorder x, int number);
    }

    private static int passed = 0;
    private static int failed = 0;
    /** Stands ahead of what is told of a wrong answer. */
    private static String heading = "";

    private Check() {
    }

    static void under(String newHeading) {
        heading = newHeading;
    }

    static void same(String what, Object got, Object want) {
        if (String.valueOf(got).equals(String.valueOf(want))) {
            passed++;
        } else {
            failed++;
            System.out.println(heading + what + " answered " + got + ", due is " + want);
        }
    }

    static String answer(Divisionorder x, Call call) {
        try {
            return String.valueOf(call.on(x));
        } catch (RuntimeException e) {
            return "throws." + e.getClass().getSimpleName();
        }
    }

    /** The call throws just what is due, and an object that had it answers as one that never had. */
    static void refuses(String what, String due, Making making, Call call) {
        Divisionorder touched = making.make();
        same(what, answer(touched, call), due);
        same("after " + what + " everything", Probe.answers(touched), Probe.answers(making.make()));
    }

    /** A new object has the call and answers it so. */
    static void answers(String what, Object due, Making making, Call call) {
        same(what, answer(making.make(), call), due);
    }

    /** Refuses what is outside a range, also what would be inside it if it were cut to 8 or 16 bits, or negated. */
    static void refusesOutside(int low, int high, String due, Making making, NumberCall call) {
        int[] numbers = {low - 1, high + 1, -low - 1, -high - 1, low - 256, high + 256, low + 65536, high - 65536,
            Integer.MIN_VALUE, Integer.MIN_VALUE + low, Integer.MAX_VALUE};
        for (int number : numbers) {
            if (number < low || number > high) {
                refuses(String.valueOf(number), due, making, y -> call.on(y, number));
            }
        }
    }

    static void end(String test) {
        System.out.println(test + ": " + passed + " passed, " + failed + " failed");
        if (failed > 0) {
            System.exit(1);
        }
    }
}
