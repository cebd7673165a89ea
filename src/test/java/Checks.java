import java.lang.reflect.InvocationTargetException;
import java.lang.reflect.Method;
import java.lang.reflect.Modifier;
import java.util.Map;
import java.util.TreeMap;

/** Compares answers with the ones that are due, prints every wrong one, and ends a test. */
final class Checks {
    /** A call of the face; a boolean is told by yes(..). */
    interface Call {
        long answer();
    }

    private int wrong = 0;
    private int cases = 0;

    static long yes(boolean answer) {
        return answer ? 1 : 0;
    }

    void due(String what, long want, Call call) {
        String got = outcome(call);
        if (!got.equals(Long.toString(want))) {
            report(what, got, Long.toString(want));
        }
    }

    void dueOutOfBounds(String what, Call call) {
        dueThrow(what, IndexOutOfBoundsException.class, call);
    }

    void dueArgument(String what, Call call) {
        dueThrow(what, IllegalArgumentException.class, call);
    }

    void dueState(String what, Call call) {
        dueThrow(what, IllegalStateException.class, call);
    }

    /** The very class is due, thrown by the class's own words: what the machine throws is a subclass of it. */
    private void dueThrow(String what, Class<?> want, Call call) {
        String got;
        try {
            got = Long.toString(call.answer());
        } catch (RuntimeException e) {
            boolean own = e.getStackTrace()[0].getClassName().startsWith("SharedLog");
            got = "throws " + e.getClass().getSimpleName() + (own ? "" : " from the library");
        }
        if (!got.equals("throws " + want.getSimpleName())) {
            report(what, got, "throws " + want.getSimpleName());
        }
    }

    static String outcome(Call call) {
        try {
            return Long.toString(call.answer());
        } catch (RuntimeException e) {
            return "throws " + e.getClass().getSimpleName();
        }
    }

    void report(String what, String got, String want) {
        wrong++;
        System.out.println(what + " answered " + got + ", due is " + want);
    }

    boolean anyWrong() {
        return wrong != 0;
    }

    /** Runs each case of a test: a method without arguments that is not private. None can be forgotten. */
    void runCases(Class<?> test) {
        Map<String, Method> methods = new TreeMap<>();
        for (Method method : test.getDeclaredMethods()) {
            if (!Modifier.isPrivate(method.getModifiers()) && method.getParameterCount() == 0) {
                methods.put(method.getName(), method);
            }
        }
        for (Method method : methods.values()) {
            runCase(method);
        }
        if (cases == 0) {
            report("cases of " + test.getName(), "none", "one or more");
        }
    }

    private void runCase(Method method) {
        int before = wrong;
        try {
            method.invoke(null);
        } catch (InvocationTargetException e) {
            report("a call that leads to the case", "throws " + e.getCause(), "no exception");
        } catch (IllegalAccessException e) {
            report("the case", "no access", "access");
        }
        cases++;
        if (wrong != before) {
            System.out.println("  in the case " + method.getName());
        }
    }

    void end() {
        String told = cases == 0 ? "" : cases + " cases: ";
        System.out.println(told + (wrong == 0 ? "all answers are as due" : wrong + " answers are not as due"));
        if (wrong != 0) {
            System.exit(1);
        }
    }
}
