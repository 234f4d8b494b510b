import java.lang.reflect.InvocationTargetException;
import java.lang.reflect.Method;
import java.util.HashMap;
import java.util.Map;

/** Calls by their names, which are all different, for tests that go through tables of them. */
final class Calls {
    private static final Map<Class<?>, Map<String, Method>> KNOWN = new HashMap<>();

    private Calls() {
    }

    /** What KingsInches or Plain answers. */
    static long ask(Object whom, String name, int... numbers) {
        Object[] given = new Object[numbers.length];
        for (int i = 0; i < numbers.length; i++) {
            given[i] = numbers[i];
        }
        try {
            return ((Number) methodOf(whom.getClass(), name).invoke(whom, given)).longValue();
        } catch (IllegalAccessException | InvocationTargetException e) {
            throw new IllegalStateException(text(name, numbers), e);
        }
    }

    static String text(String name, int... numbers) {
        StringBuilder text = new StringBuilder(name).append('(');
        for (int i = 0; i < numbers.length; i++) {
            text.append(i == 0 ? "" : ", ").append(numbers[i]);
        }
        return text.append(')').toString();
    }

    private static Method methodOf(Class<?> c, String name) {
        Method found = KNOWN.computeIfAbsent(c, Calls::methodsOf).get(name);
        if (found == null) {
            throw new IllegalStateException(c + " has no " + name);
        }
        return found;
    }

    private static Map<String, Method> methodsOf(Class<?> c) {
        Map<String, Method> all = new HashMap<>();
        for (Method m : c.getDeclaredMethods()) {
            all.put(m.getName(), m);
        }
        return all;
    }
}
