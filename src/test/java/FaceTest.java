import java.lang.reflect.Constructor;
import java.lang.reflect.Field;
import java.lang.reflect.Method;
import java.lang.reflect.Modifier;
import java.util.Arrays;
import java.util.Set;
import java.util.TreeSet;

/** The public face: what the document lists, with its throws clauses, and nothing else that is not private. */
public final class FaceTest {
    private static final Checks CHECKS = new Checks();
    private static final String OUT = " throws IndexOutOfBoundsException";
    private static final String STATE = " throws IllegalStateException";
    private static final String ARGUMENT_STATE = " throws IllegalArgumentException, IllegalStateException";
    private static final String OUT_STATE = " throws IndexOutOfBoundsException, IllegalStateException";

    public static void main(String[] args) {
        Set<String> want = new TreeSet<>(Arrays.asList(
                "int take(int, int)" + ARGUMENT_STATE,
                "int takeIf(int, int, int, int)" + ARGUMENT_STATE,
                "int lose()" + STATE,
                "int seal()",
                "int write(int)" + OUT_STATE,
                "boolean fill(int)" + OUT_STATE,
                "int epoch()",
                "int tail()",
                "int tokens()",
                "int positionOf(int)" + OUT,
                "int stateOf(int)" + OUT,
                "int pointer(int, int, int)" + OUT,
                "int cellAt(int, int)" + OUT,
                "int known()",
                "boolean takesEffect(int)" + OUT,
                "int value(int, int)" + OUT,
                "int valueByPointers(int, int)" + OUT,
                "int latest(int, int)" + OUT));
        Set<String> got = new TreeSet<>();
        Set<String> names = new TreeSet<>();
        for (Method method : SharedLog.class.getDeclaredMethods()) {
            if (!Modifier.isPrivate(method.getModifiers()) && !method.isSynthetic()) {
                got.add(told(method));
                names.add(method.getName());
            }
        }
        same("the methods", got.toString(), want.toString());
        same("the class", Modifier.toString(SharedLog.class.getModifiers()), "public final");
        Constructor<?>[] constructors = SharedLog.class.getDeclaredConstructors();
        same("the constructor", Arrays.toString(constructors), "[public SharedLog()]");
        fieldsArePrivate(SharedLog.class);
        privateNamesDiffer(SharedLog.class, names);
        for (Class<?> inside : SharedLog.class.getDeclaredClasses()) {
            fieldsArePrivate(inside);
            privateNamesDiffer(inside, names);
        }
        CHECKS.end();
    }

    private static String told(Method method) {
        String told = method.getReturnType() + " " + method.getName() + "(" + listed(method.getParameterTypes()) + ")";
        Class<?>[] thrown = method.getExceptionTypes();
        return thrown.length == 0 ? told : told + " throws " + listed(thrown);
    }

    private static String listed(Class<?>[] types) {
        StringBuilder list = new StringBuilder();
        for (Class<?> type : types) {
            list.append(list.length() == 0 ? "" : ", ").append(type.getSimpleName());
        }
        return list.toString();
    }

    private static void fieldsArePrivate(Class<?> type) {
        for (Field field : type.getDeclaredFields()) {
            int modifiers = field.getModifiers();
            same("private: " + field, "" + Modifier.isPrivate(modifiers), "true");
            same("final if static: " + field, "" + (!Modifier.isStatic(modifiers) || Modifier.isFinal(modifiers)), "true");
        }
    }

    private static void privateNamesDiffer(Class<?> type, Set<String> names) {
        for (Method method : type.getDeclaredMethods()) {
            if (Modifier.isPrivate(method.getModifiers())) {
                same("a name of its own: " + method, "" + !names.contains(method.getName()), "true");
            }
        }
    }

    private static void same(String what, String got, String want) {
        if (!got.equals(want)) {
            CHECKS.report(what, got, want);
        }
    }
}
