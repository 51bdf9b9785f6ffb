import java.lang.reflect.Method;
import java.lang.reflect.Modifier;
import java.util.Arrays;
import java.util.HashMap;
import java.util.Map;

/** Calls of the class by their names, so that tests can go through all of them with a table. */
final class Calls {
    private static final Map<String, Method> METHODS = new HashMap<>();

    static {
        for (Method method : ThriceCounted.class.getDeclaredMethods()) {
            if (Modifier.isPublic(method.getModifiers())) {
                METHODS.put(method.getName(), method);
            }
        }
    }

    private Calls() {
    }

    static long ask(ThriceCounted x, String name, int... numbers) {
        Object[] arguments = new Object[numbers.length];
        for (int i = 0; i < numbers.length; i++) {
            arguments[i] = numbers[i];
        }
        try {
            return ((Number) METHODS.get(name).invoke(x, arguments)).longValue();
        } catch (ReflectiveOperationException e) {
            throw new IllegalStateException(text(name, numbers), e);
        }
    }

    static String text(String name, int... numbers) {
        String list = Arrays.toString(numbers);
        return name + "(" + list.substring(1, list.length() - 1) + ")";
    }
}
