/** Counts what is as due and prints what is not; end() closes a test program. */
final class Check {
    private static int passed = 0;
    private static int failed = 0;
    private static String part = "";

    private Check() {
    }

    /** A call that answers a number, true as 1, nothing as 0, and may throw. */
    interface Call {
        long answer();
    }

    static void part(String name) {
        part = name;
    }

    static void same(String what, long got, long want) {
        if (got == want) {
            passed++;
            return;
        }
        failed++;
        System.out.println(part + ": " + what + " answered " + got + ", due is " + want);
    }

    static void isTrue(String what, boolean holds) {
        same(what, holds ? 1 : 0, 1);
    }

    /** What a call comes to: its answer, or the very class of what it throws. */
    static String outcome(Call call) {
        try {
            return Long.toString(call.answer());
        } catch (RuntimeException thrown) {
            return thrown.getClass().getName();
        }
    }

    static void sameOutcome(String what, String got, String want) {
        if (got.equals(want)) {
            passed++;
            return;
        }
        failed++;
        System.out.println(part + ": " + what + " came to " + got + ", due is " + want);
    }

    static void refusesArgument(String what, Call call) {
        sameOutcome(what, outcome(call), "java.lang.IllegalArgumentException");
    }

    static void refusesIndex(String what, Call call) {
        sameOutcome(what, outcome(call), "java.lang.IndexOutOfBoundsException");
    }

    static void refusesState(String what, Call call) {
        sameOutcome(what, outcome(call), "java.lang.IllegalStateException");
    }

    /** A call of a planner that it is given. */
    interface Step {
        long on(SleepPlanner x);
    }

    /** In each situation the call throws, and what is told behind it is what is told without it. */
    static void refuses(String what, Class<?> thrown, Step step) {
        for (Situation situation : Situation.values()) {
            refusesIn(situation, what, thrown, step);
        }
    }

    static void refusesIn(Situation situation, String what, Class<?> thrown, Step step) {
        SleepPlanner x = situation.make();
        sameOutcome(what + " of " + situation, outcome(() -> step.on(x)), thrown.getName());
        sameOutcome("what is behind " + what + " of " + situation, Probe.tell(x), Probe.tell(situation.make()));
    }

    static int failures() {
        return failed;
    }

    static void end(String program) {
        System.out.println(program + ": " + passed + " checks as due, " + failed + " not");
        if (failed > 0 || passed == 0) {
            System.exit(1);
        }
    }
}
