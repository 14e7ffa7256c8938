import java.lang.reflect.InvocationTargetException;
import java.lang.reflect.Method;
import java.lang.reflect.Modifier;
import java.util.ArrayList;
import java.util.HashMap;
import java.util.List;
import java.util.Map;
import java.util.StringJoiner;

/** A house and the model of it, asked together: every answer of the house must be the model's. */
final class Twin {
    static final int CALLS_MOST = 512;
    private static final int TOLD_MOST = 3;
    private static final Map<String, Method> HOUSE = methodsOf(SportsHouse.class);
    private static final Map<String, Method> MODEL = methodsOf(Model.class);
    private static int told;

    final SportsHouse house = new SportsHouse();
    final Model model = new Model();
    private final Check check;
    private final String run;
    private final List<String> calls = new ArrayList<>();
    private boolean wrong;

    Twin(Check check, String run) {
        this.check = check;
        this.run = run;
    }

    /** How many calls may still be made on this object. */
    int left() {
        return CALLS_MOST - calls.size();
    }

    int call(String name, int... a) {
        StringJoiner text = new StringJoiner(", ", name + "(", ")");
        for (int x : a) {
            text.add(Integer.toString(x));
        }
        calls.add(text.toString());
        int got = ask(HOUSE, house, name, a);
        int want = ask(MODEL, model, name, a);
        check.due(run + " call " + calls.size() + " " + text, got, want);
        if (got != want && !wrong) {
            wrong = true;
            tellRun();
        }
        return got;
    }

    private void tellRun() {
        told++;
        if (told <= TOLD_MOST) {
            System.out.println(run + ": " + String.join(" ", calls));
        }
    }

    /** Writes rules and makes a competition of them. */
    int rules(String text) {
        for (char c : text.toCharArray()) {
            call("sign", c);
        }
        return call("competition");
    }

    private static Map<String, Method> methodsOf(Class<?> type) {
        Map<String, Method> found = new HashMap<>();
        for (Method method : type.getDeclaredMethods()) {
            if (!Modifier.isPrivate(method.getModifiers())) {
                found.put(method.getName(), method);
            }
        }
        return found;
    }

    private static int ask(Map<String, Method> methods, Object object, String name, int[] a) {
        Method method = methods.get(name);
        Object[] arguments = new Object[a.length];
        for (int k = 0; k < a.length; k++) {
            boolean flag = method.getParameterTypes()[k] == boolean.class;
            arguments[k] = flag ? (Object) (a[k] != 0) : (Object) a[k];
        }
        try {
            return (Integer) method.invoke(object, arguments);
        } catch (IllegalAccessException | InvocationTargetException e) {
            throw new IllegalStateException(name, e);
        }
    }
}
