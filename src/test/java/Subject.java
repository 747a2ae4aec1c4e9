import java.lang.reflect.InvocationTargetException;
import java.lang.reflect.Method;
import java.util.HashMap;
import java.util.Map;

/** The class or its plain model, called by the names of the face, so that both can be asked the same. */
final class Subject {
    static final int MOST_CALLS = 512;
    private static final Map<String, Method> FACE = methodsOf(Lexirack.class);
    private static final Map<String, Method> PLAIN = methodsOf(Naive.class);

    private final Object whom;
    private final Map<String, Method> methods;
    private int calls = 0;

    Subject(Object whom) {
        this.whom = whom;
        methods = whom instanceof Lexirack ? FACE : PLAIN;
    }

    private static Map<String, Method> methodsOf(Class<?> kind) {
        Map<String, Method> methods = new HashMap<>();
        for (Method method : kind.getDeclaredMethods()) {
            if (!java.lang.reflect.Modifier.isPrivate(method.getModifiers())) {
                methods.put(method.getName(), method);
            }
        }
        return methods;
    }

    int calls() {
        return calls;
    }

    /** The answer, or the name of the exception; null if the plain model would take too long. */
    Object call(String name, Object... given) {
        calls++;
        if (calls > MOST_CALLS) {
            throw new IllegalStateException("a test calls an object more often than is promised");
        }
        try {
            return methods.get(name).invoke(whom, given);
        } catch (InvocationTargetException thrown) {
            Throwable cause = thrown.getCause();
            if (cause instanceof Naive.TooMuch) {
                return null;
            }
            StackTraceElement[] trace = cause.getStackTrace();
            boolean isThrown = trace.length > 0 && !trace[0].getClassName().startsWith("java.");
            return isThrown ? cause.getClass().getName() : "of itself " + cause;
        } catch (IllegalAccessException thrown) {
            throw new IllegalStateException(thrown);
        }
    }

    /** The answer as a number, a truth being 1 or 0; Integer.MIN_VALUE behind an exception. */
    int number(String name, Object... given) {
        return numberOf(call(name, given));
    }

    static int numberOf(Object answer) {
        if (answer instanceof Integer) {
            return (Integer) answer;
        }
        if (answer instanceof Character) {
            return (Character) answer;
        }
        if (answer instanceof Boolean) {
            return (Boolean) answer ? 1 : 0;
        }
        return Integer.MIN_VALUE;
    }
}
