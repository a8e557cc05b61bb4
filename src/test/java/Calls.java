import java.lang.reflect.InvocationTargetException;
import java.lang.reflect.Method;
import java.util.HashMap;
import java.util.Map;

/** Calls that are written as in the document, such as addLine('s', 0, 1). */
final class Calls {
    private static final Map<String, Method> METHODS = new HashMap<>();

    private Calls() {
    }

    /** The answer, or the class of what is thrown. */
    static Object answer(Object target, String call) {
        int bracket = call.indexOf('(');
        String inside = call.substring(bracket + 1, call.length() - 1);
        String[] texts = inside.isEmpty() ? new String[0] : inside.split(", ");
        Object[] values = new Object[texts.length];
        for (int i = 0; i < texts.length; i++) {
            values[i] = value(texts[i]);
        }
        try {
            return method(target.getClass(), call.substring(0, bracket)).invoke(target, values);
        } catch (InvocationTargetException e) {
            return e.getCause().getClass();
        } catch (IllegalAccessException e) {
            throw new IllegalStateException(e);
        }
    }

    private static Object value(String text) {
        if (text.startsWith("'")) {
            return text.charAt(1);
        }
        return Integer.valueOf(text);
    }

    private static Method method(Class<?> owner, String called) {
        return METHODS.computeIfAbsent(owner.getName() + "." + called, key -> {
            for (Method method : owner.getMethods()) {
                if (method.getName().equals(called) && method.getDeclaringClass() == owner) {
                    return method;
                }
            }
            throw new IllegalStateException("no method " + called);
        });
    }
}
