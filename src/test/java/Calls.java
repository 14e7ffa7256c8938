import java.lang.reflect.InvocationTargetException;
import java.lang.reflect.Method;
import java.lang.reflect.Modifier;
import java.util.HashMap;
import java.util.Map;
import java.util.StringJoiner;

/** Calls by their names, with numbers alone; a flag is told as 0 or 1. */
final class Calls {
    /** How often an object may be called. */
    static final int MOST = 512;
    private static final Map<Class<?>, Map<String, Method>> KNOWN = new HashMap<>();

    private Calls() {
    }

    static boolean has(Class<?> type, String name) {
        return methodsOf(type).containsKey(name);
    }

    /** How many numbers a call takes. */
    static int width(Class<?> type, String name) {
        return methodsOf(type).get(name).getParameterCount();
    }

    static int ask(Object object, String name, int... a) {
        Method method = methodsOf(object.getClass()).get(name);
        Class<?>[] types = method.getParameterTypes();
        Object[] arguments = new Object[a.length];
        for (int k = 0; k < a.length; k++) {
            arguments[k] = types[k] == boolean.class ? (Object) (a[k] != 0) : (Object) a[k];
        }
        try {
            return (Integer) method.invoke(object, arguments);
        } catch (IllegalAccessException | InvocationTargetException e) {
            throw new IllegalStateException(tell(name, a), e);
        }
    }

    static String tell(String name, int... a) {
        StringJoiner text = new StringJoiner(", ", name + "(", ")");
        for (int x : a) {
            text.add(Integer.toString(x));
        }
        return text.toString();
    }

    private static Map<String, Method> methodsOf(Class<?> type) {
        Map<String, Method> found = KNOWN.get(type);
        if (found == null) {
            found = new HashMap<>();
            for (Method method : type.getDeclaredMethods()) {
                if (!Modifier.isPrivate(method.getModifiers())) {
                    found.put(method.getName(), method);
                }
            }
            KNOWN.put(type, found);
        }
        return found;
    }
}
