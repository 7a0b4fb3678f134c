import java.lang.reflect.InvocationTargetException;
import java.lang.reflect.Method;
import java.util.Arrays;
import java.util.HashMap;
import java.util.Map;

/** Calls an object by the names of methods, keeps to 512 calls, and writes down what was answered. */
final class Caller {
    private static final int MOST_CALLS = 512;
    private static final Map<String, Method> METHODS = methods();

    private final Courtyard x = new Courtyard();
    private final StringBuilder past = new StringBuilder();
    private int calls;

    private static Map<String, Method> methods() {
        Map<String, Method> methods = new HashMap<>();
        for (Method method : Courtyard.class.getDeclaredMethods()) {
            if (java.lang.reflect.Modifier.isPublic(method.getModifiers())) {
                methods.put(method.getName(), method);
            }
        }
        return methods;
    }

    /** Answers the value, or throws. and the name of the exception. */
    String call(String name, Object... values) {
        calls++;
        if (calls > MOST_CALLS) {
            throw new IllegalStateException("more than 512 calls");
        }
        String got;
        try {
            got = String.valueOf(METHODS.get(name).invoke(x, values));
        } catch (InvocationTargetException e) {
            got = (Check.isThrownByStatement(e.getCause()) ? "throws." : "thrown by the machine: ")
                    + e.getCause().getClass().getSimpleName();
        } catch (IllegalAccessException e) {
            throw new IllegalStateException(e);
        }
        past.append(text(name, values)).append(' ').append(got).append('\n');
        return got;
    }

    static String text(String name, Object... values) {
        return name + Arrays.toString(values);
    }

    /** What was answered since this was asked last. */
    String past() {
        String text = past.toString();
        past.setLength(0);
        return text;
    }
}
