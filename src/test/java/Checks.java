/** Compares answers with the ones that are due, prints every wrong one, and ends a test. */
final class Checks {
    /** A call of the face; a boolean is told by yes(..). */
    interface Call {
        long answer();
    }

    private int wrong = 0;

    static long yes(boolean answer) {
        return answer ? 1 : 0;
    }

    void due(String what, long want, Call call) {
        String got = outcome(call);
        if (!got.equals(Long.toString(want))) {
            report(what, got, Long.toString(want));
        }
    }

    void dueOutOfBounds(String what, Call call) {
        dueThrow(what, IndexOutOfBoundsException.class, call);
    }

    void dueArgument(String what, Call call) {
        dueThrow(what, IllegalArgumentException.class, call);
    }

    void dueState(String what, Call call) {
        dueThrow(what, IllegalStateException.class, call);
    }

    /** The very class is due: one that the machine throws is a subclass of it. */
    private void dueThrow(String what, Class<?> want, Call call) {
        String got = outcome(call);
        if (!got.equals("throws " + want.getSimpleName())) {
            report(what, got, "throws " + want.getSimpleName());
        }
    }

    static String outcome(Call call) {
        try {
            return Long.toString(call.answer());
        } catch (RuntimeException e) {
            return "throws " + e.getClass().getSimpleName();
        }
    }

    void report(String what, String got, String want) {
        wrong++;
        System.out.println(what + " answered " + got + ", due is " + want);
    }

    boolean anyWrong() {
        return wrong != 0;
    }

    void end() {
        System.out.println(wrong == 0 ? "all answers are as due" : wrong + " answers are not as due");
        if (wrong != 0) {
            System.exit(1);
        }
    }
}
