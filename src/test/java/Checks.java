/** Counts and tells the answers that are not as due. */
final class Checks {
    interface Call {
        Object answer();
    }

    private final String name;
    private int checked;
    private int wrong;

    Checks(String name) {
        this.name = name;
    }

    /** Compares by text, so that 3 and 3L are alike, and -0.0 and 0.0 are not. */
    void due(String what, Object want, Object got) {
        checked++;
        if (!String.valueOf(want).equals(String.valueOf(got))) {
            wrong++;
            System.out.println(name + ": " + what + ": answered " + got + ", due is " + want);
        }
    }

    int checked() {
        return checked;
    }

    void isTrue(String what, boolean got) {
        due(what, true, got);
    }

    void throwing(String what, Class<? extends RuntimeException> want, Call call) {
        due(what, "throws " + want.getSimpleName(), answerOf(call));
    }

    /** The call's answer as a text, or which exception it throws. */
    static String answerOf(Call call) {
        try {
            return String.valueOf(call.answer());
        } catch (RuntimeException e) {
            return "throws " + e.getClass().getSimpleName();
        }
    }

    /** Ends the machine with exit code 1 if an answer was not as due. */
    void end() {
        System.out.println(name + ": " + checked + " checks, " + wrong + " wrong");
        if (wrong > 0 || checked == 0) {
            System.exit(1);
        }
    }
}
