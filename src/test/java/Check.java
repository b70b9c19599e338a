/** Counts the answers that are not as due, and tells them. */
final class Check {
    /** A call of the face; a boolean answer counts 1 or 0. */
    interface Call {
        long answer();
    }

    static final String ARGUMENT = "throws.IllegalArgumentException";
    static final String STATE = "throws.IllegalStateException";

    private int right = 0;
    private int wrong = 0;

    void due(String what, long want, Call call) {
        compare(what, Long.toString(want), told(call));
    }

    void argument(String what, Call call) {
        compare(what, ARGUMENT, told(call));
    }

    void state(String what, Call call) {
        compare(what, STATE, told(call));
    }

    void compare(String what, String want, String got) {
        if (got.equals(want)) {
            right++;
        } else {
            wrong++;
            System.out.println(what + " answered " + got + ", due is " + want);
        }
    }

    /** What a call answered, in the words of the issues. */
    static String told(Call call) {
        try {
            return Long.toString(call.answer());
        } catch (RuntimeException e) {
            return "throws." + e.getClass().getSimpleName();
        }
    }

    void end() {
        System.out.println(right + " answers as due, " + wrong + " not");
        if (wrong != 0) {
            System.exit(1);
        }
    }
}
