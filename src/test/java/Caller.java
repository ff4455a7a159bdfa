import java.lang.reflect.InvocationTargetException;
import java.lang.reflect.Method;
import java.lang.reflect.Modifier;
import java.util.ArrayList;
import java.util.Comparator;
import java.util.List;

/** Calls of the face by their names, for tests whose calls are read or made up. */
final class Caller {
    private Caller() {
    }

    /** The methods of the face in an order that is the same on each machine. */
    static List<Method> face() {
        List<Method> all = new ArrayList<>(List.of(HuesApart.class.getDeclaredMethods()));
        all.removeIf(m -> !Modifier.isPublic(m.getModifiers()));
        all.sort(Comparator.comparing(Method::getName));
        return all;
    }

    static Method named(String name) {
        for (Method m : face()) {
            if (m.getName().equals(name)) {
                return m;
            }
        }
        throw new IllegalArgumentException("no call is named " + name);
    }

    /** What the call answers; whatever it throws ends the test. */
    static long answer(HuesApart x, Method call, Object... numbers) {
        try {
            return ((Number) call.invoke(x, numbers)).longValue();
        } catch (InvocationTargetException thrown) {
            throw new IllegalStateException(call.getName() + List.of(numbers) + " threw", thrown.getCause());
        } catch (IllegalAccessException hidden) {
            throw new IllegalStateException(hidden);
        }
    }

    /** Numbers as they are written in a call: with commas, a byte perhaps as a sign between two '. */
    static Object[] numbers(String written) {
        if (written.isEmpty()) {
            return new Object[0];
        }
        String[] parts = written.split(", ");
        Object[] numbers = new Object[parts.length];
        for (int k = 0; k < parts.length; k++) {
            numbers[k] = parts[k].startsWith("'") ? parts[k].charAt(1) : Integer.parseInt(parts[k]);
        }
        return numbers;
    }
}
