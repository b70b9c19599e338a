/** Counts the answers that are not as due, and tells them. */
final class Check {
    /** A call of the face; a boolean answer counts 1 or 0. */
    interface Call {
        long answer();
    }

    static final String ARGUMENT = "throws.IllegalArgumentException";
    static final String STATE = "throws.IllegalStateException";

    /** No test takes a tenth of it; a call that does not end is to be told, too. */
    private static final long MOST_MILLISECONDS = 300000;

    private int right = 0;
    private int wrong = 0;

    Check() {
        Thread watch = new Thread(Check::endLate);
        watch.setDaemon(true);
        watch.start();
    }

    void due(String what, long want, Call call) {
        compare(what, Long.toString(want), told(call));
    }

    void argument(String what, Call call) {
        compare(what, ARGUMENT, told(call));
    }

    void state(String what, Call call) {
        compare(what, STATE, told(call));
    }

    /** The call is to answer, whatever it answers, and not to throw. */
    void answers(String what, Call call) {
        String got = told(call);
        compare(what, got.startsWith("throws.") ? "an answer" : got, got);
    }

    void compare(String what, String want, String got) {
        if (got.equals(want)) {
            right++;
        } else {
            wrong++;
            System.out.println(test() + ": " + what + " answered " + got + ", due is " + want);
        }
    }

    /** What a call answered, in the words of the issues. */
    static String told(Call call) {
        try {
            return Long.toString(call.answer());
        } catch (RuntimeException e) {
            return "throws." + e.getClass().getSimpleName();
        }
    }

    static long bit(boolean b) {
        return b ? 1 : 0;
    }

    void end() {
        System.out.println(right + " answers as due, " + wrong + " not");
        if (wrong != 0) {
            System.exit(1);
        }
    }

    private static void endLate() {
        try {
            Thread.sleep(MOST_MILLISECONDS);
        } catch (InterruptedException e) {
            System.out.println("the watch has been woken");
        }
        System.out.println("a call does not end");
        Runtime.getRuntime().halt(1);
    }

    /** The test that checks, which main has called, so that its remark is quickly found. */
    private static String test() {
        String found = "main";
        for (StackTraceElement frame : new Throwable().getStackTrace()) {
            if (frame.getMethodName().equals("main")) {
                return found;
            }
            found = frame.getClassName() + "." + frame.getMethodName();
        }
        return found;
    }
}
