import java.lang.reflect.InvocationTargetException;
import java.lang.reflect.Method;
import java.util.HashMap;
import java.util.Map;
import java.util.Set;

/** A call told as a text, such as "habit(0, 1, 12)". */
final class Call {
    private static final Set<String> VOID_IF_REFUSED = Set.of(
            "value", "exact", "would", "work", "figure", "turn", "middle", "read", "known");
    private static final Set<String> FALSE_IF_REFUSED = Set.of("end", "stick", "hard", "mend", "rival");
    private static final Set<String> ASKS = Set.of(
            "fault", "value", "exact", "would", "figure", "pair", "column", "settings", "suspects", "rivals",
            "middle", "bound", "read", "misses", "known", "shared", "copied", "lead", "count");
    private static final Map<String, Method> METHODS = new HashMap<>();
    private static final Map<String, Call> CALLS = new HashMap<>();

    static {
        for (Method m : TableHouse.class.getMethods()) {
            METHODS.put(m.getName(), m);
        }
    }

    private final Method method;
    private final Object[] arguments;

    private Call(String told) {
        int open = told.indexOf('(');
        method = METHODS.get(told.substring(0, open));
        String inside = told.substring(open + 1, told.length() - 1).trim();
        String[] parts = inside.isEmpty() ? new String[0] : inside.split(",");
        arguments = new Object[parts.length];
        for (int i = 0; i < parts.length; i++) {
            arguments[i] = number(parts[i].trim());
        }
    }

    private static Integer number(String told) {
        return told.equals("VOID") || told.equals("LEAST") ? Integer.valueOf(Integer.MIN_VALUE)
                : told.equals("GREATEST") ? Integer.valueOf(Integer.MAX_VALUE)
                : Integer.valueOf(told);
    }

    static Call of(String told) {
        return CALLS.computeIfAbsent(told, Call::new);
    }

    /** A boolean counts 1 or 0. */
    int on(TableHouse x) {
        try {
            Object answer = method.invoke(x, arguments);
            return answer instanceof Boolean b ? (b ? 1 : 0) : (Integer) answer;
        } catch (IllegalAccessException | InvocationTargetException e) {
            throw new IllegalStateException(method.getName(), e);
        }
    }

    int answerIfRefused() {
        String name = method.getName();
        return VOID_IF_REFUSED.contains(name) ? TableHouse.VOID : FALSE_IF_REFUSED.contains(name) ? 0 : TableHouse.NONE;
    }

    boolean onlyAsks() {
        return ASKS.contains(method.getName());
    }
}
