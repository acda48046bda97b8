import java.lang.reflect.InvocationTargetException;
import java.lang.reflect.Method;
import java.util.HashMap;
import java.util.Map;

/** An object (of the class, or the Model) whose calls are told by name, and counted: it is good for 512. */
final class Played {
    static final int CALLS = 512;
    private static final Map<String, Method> METHODS = new HashMap<>();

    private final Object on;
    private int calls = 0;

    Played(Object on) {
        this.on = on;
    }

    long call(String name, int... numbers) {
        calls++;
        if (calls > CALLS) {
            throw new IllegalStateException("more than " + CALLS + " calls of one object");
        }
        Method method = methodOf(on.getClass(), name, numbers.length);
        try {
            return ((Number) method.invoke(on, given(method, numbers))).longValue();
        } catch (InvocationTargetException thrown) {
            throw new IllegalStateException(told(name, numbers) + " threw", thrown.getCause());
        } catch (IllegalAccessException thrown) {
            throw new IllegalStateException(thrown);
        }
    }

    private static Object[] given(Method method, int[] numbers) {
        Object[] given = new Object[numbers.length];
        for (int k = 0; k < numbers.length; k++) {
            boolean isBoolean = method.getParameterTypes()[k] == boolean.class;
            given[k] = isBoolean ? (Object) (numbers[k] != 0) : (Object) numbers[k];
        }
        return given;
    }

    private static Method methodOf(Class<?> of, String name, int many) {
        return METHODS.computeIfAbsent(of.getName() + " " + name + " " + many, key -> find(of, name, many));
    }

    private static Method find(Class<?> of, String name, int many) {
        for (Method method : of.getDeclaredMethods()) {
            if (method.getName().equals(name) && method.getParameterCount() == many) {
                return method;
            }
        }
        throw new IllegalArgumentException("no " + name + " of " + many + " numbers in " + of);
    }

    static String told(String name, int... numbers) {
        StringBuilder text = new StringBuilder(name).append('(');
        for (int k = 0; k < numbers.length; k++) {
            text.append(k == 0 ? "" : ", ").append(numbers[k]);
        }
        return text.append(')').toString();
    }
}
