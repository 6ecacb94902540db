import java.util.Objects;

/** Counts and prints the answers that are not as due. */
final class Check {
    private static int wrong = 0;
    private static int count = 0;
    private static String subject = "";

    private Check() {
    }

    /** What the next checks are about is printed with each wrong answer. */
    static void about(String text) {
        subject = text.isEmpty() ? "" : "[" + text + "] ";
    }

    static int count() {
        return count;
    }

    static void same(String call, Object got, Object due) {
        count++;
        if (!Objects.equals(got, due)) {
            wrong++;
            System.out.println(subject + call + " answered " + got + ", due is " + due);
        }
    }

    static void yes(String call, boolean got) {
        same(call, got, true);
    }

    static void no(String call, boolean got) {
        same(call, got, false);
    }

    /** The class must be the very one that is due: no subclass, no exception of the machine. */
    static void refused(String call, Class<? extends RuntimeException> due, Runnable code) {
        Class<?> got = null;
        try {
            code.run();
        } catch (RuntimeException e) {
            got = e.getClass();
        }
        same(call + " throws", got, due);
    }

    /** Ends the test: the machine's exit code is 1 if an answer was wrong. */
    static void end(String test) {
        System.out.println(test + (wrong == 0 ? ": all answers are as due" : ": " + wrong + " wrong"));
        if (wrong != 0) {
            System.exit(1);
        }
    }
}
