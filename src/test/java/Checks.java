/** Counts what is not as due, and ends a test with exit code 1 if there was anything. */
final class Checks {
    /** A call that may throw. */
    interface Call {
        Object make();
    }

    private final String title;
    private String heading = "";
    private int made;
    private int wrong;

    Checks(String title) {
        this.title = title;
    }

    /** Sets what stands before each answer that is not as due from now on. */
    void under(String newHeading) {
        heading = newHeading + ": ";
    }

    int made() {
        return made;
    }

    /** The answer of a call, told as a text, or the name of what it throws. */
    static String told(Call call) {
        try {
            return String.valueOf(call.make());
        } catch (RuntimeException e) {
            return "throws " + e.getClass().getSimpleName();
        }
    }

    /** Answers are compared as texts, so that 0.0 and -0.0 differ, and 1 and 1.0 too. */
    boolean due(String what, Object want, Call call) {
        made++;
        String got = told(call);
        if (got.equals(String.valueOf(want))) {
            return true;
        }
        wrong++;
        if (wrong <= 20) {
            System.out.println(title + ": " + heading + what + " answered " + got
                    + ", due is " + want);
        }
        return false;
    }

    void dueIllegal(String what, Call call) {
        due(what, "throws IllegalArgumentException", call);
    }

    void dueState(String what, Call call) {
        due(what, "throws IllegalStateException", call);
    }

    void dueIndex(String what, Call call) {
        due(what, "throws IndexOutOfBoundsException", call);
    }

    void dueUnknown(String what, Call call) {
        due(what, "throws UnsupportedOperationException", call);
    }

    void finish() {
        System.out.println(title + ": " + made + " answers, " + wrong + " not as due");
        if (wrong != 0 || made == 0) {
            System.exit(1);
        }
    }
}
