/** Compares answers with those that are due, and counts the wrong ones. */
final class Check {
    /** A call that may throw; what it answers counts as a number (a boolean 1 or 0, void 0). */
    interface Call {
        long answer();
    }

    /** A call on a new object with one number that is tried at the ends of its range. */
    interface Tried {
        long answer(int number);
    }

    static final String INDEX = "IndexOutOfBoundsException";
    static final String ARGUMENT = "IllegalArgumentException";
    static final String STATE = "IllegalStateException";

    private static int wrong = 0;
    private static int checks = 0;

    private Check() {
    }

    static void due(String what, long want, Call call) {
        report(what, Long.toString(want), outcome(call));
    }

    static void thrown(String what, String want, Call call) {
        report(what, want, outcome(call));
    }

    /** All numbers from least to most are taken; those right beside them, and the farthest, are refused. */
    static void range(String what, String refusal, int least, int most, Tried call) {
        for (int number = least; number <= most; number++) {
            int taken = number;
            String got = outcome(() -> call.answer(taken));
            report(what + " " + number + " is taken", "true", "" + !got.contains("Exception"));
        }
        for (int number : new int[] {least - 1, most + 1, Integer.MIN_VALUE, Integer.MAX_VALUE}) {
            int refused = number;
            thrown(what + " " + number + " is refused", refusal, () -> call.answer(refused));
        }
    }

    /** Runs a call that answers nothing. */
    static long done(Runnable call) {
        call.run();
        return 0;
    }

    /** The answer as a text, or the plain name of the exception that was thrown. */
    static String outcome(Call call) {
        try {
            return Long.toString(call.answer());
        } catch (RuntimeException e) {
            String kind = e.getClass().getSimpleName();
            return isByMachine(e) ? kind + " by the machine or its library" : kind;
        }
    }

    /** An exception of the program's own is made in the very method that throws it; others come from elsewhere. */
    private static boolean isByMachine(RuntimeException e) {
        StackTraceElement[] calls = e.getStackTrace();
        boolean isOwn = calls.length > 0 && !calls[0].getClassName().startsWith("java.")
            && !calls[0].getClassName().startsWith("jdk.");
        Class<?> kind = e.getClass();
        boolean isTold = kind == IndexOutOfBoundsException.class || kind == IllegalArgumentException.class
            || kind == IllegalStateException.class;
        return !isOwn || !isTold;
    }

    static void report(String what, String want, String got) {
        checks++;
        if (!want.equals(got)) {
            wrong++;
            if (wrong <= 50) {
                System.out.println(what + " answered " + got + ", due is " + want);
            }
        }
    }

    static void end() {
        System.out.println(wrong == 0 ? checks + " answers are as due" : wrong + " of " + checks + " are not as due");
        if (wrong != 0 || checks == 0) {
            System.exit(1);
        }
    }
}
