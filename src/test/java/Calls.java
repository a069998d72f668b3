import java.lang.reflect.InvocationTargetException;
import java.lang.reflect.Method;
import java.util.HashMap;
import java.util.Map;

/** Calls told in a text, as "set(0, 1, 9)", so that a row of a test is written once. */
final class Calls {
    private static final Map<String, Method> FACE = new HashMap<>();

    static {
        for (Method m : BreakSwaps.class.getMethods()) {
            if (m.getDeclaringClass() == BreakSwaps.class) {
                FACE.put(m.getName(), m);
            }
        }
    }

    private Calls() { }

    static long ask(BreakSwaps x, String call) {
        int open = call.indexOf('(');
        String inside = call.substring(open + 1, call.length() - 1);
        String[] parts = inside.isEmpty() ? new String[0] : inside.split(", ");
        Method m = FACE.get(call.substring(0, open));
        Object[] given = new Object[parts.length];
        for (int k = 0; k < parts.length; k++) {
            long v = Long.parseLong(parts[k]);
            given[k] = m.getParameterTypes()[k] == long.class ? (Object) v : (Object) Math.toIntExact(v);
        }
        try {
            return ((Number) m.invoke(x, given)).longValue();
        } catch (InvocationTargetException | IllegalAccessException e) {
            throw new IllegalStateException(call, e);
        }
    }

    /** Several calls, parted by "; ", whose answers nobody looks at. */
    static void askAll(BreakSwaps x, String calls) {
        for (String call : calls.split("; ")) {
            ask(x, call);
        }
    }
}
