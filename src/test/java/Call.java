import java.lang.reflect.Method;
import java.lang.reflect.Modifier;
import java.util.HashMap;
import java.util.Map;
import java.util.Set;

/** One call of the class, read from a text: "comes(0, 0, 5)". */
final class Call {
    /** The calls that promise 47 names. */
    private static final Set<String> TOLD_BY_STATUS = Set.of("child", "school", "shut", "comes", "goes", "failed", "has", "mark",
        "appeal", "act", "take", "pay", "record", "missing", "visit", "draw", "seal", "alter", "image", "back");
    /** Besides these, the calls that may change what later ones answer. */
    private static final Set<String> TOLD_BESIDES = Set.of("feed", "end", "join", "beside");
    private static final Map<String, Method> METHODS = methods();

    final String text;
    private final Method method;
    private final Object[] values;

    private Call(String text, Method method, Object[] values) {
        this.text = text;
        this.method = method;
        this.values = values;
    }

    private static Map<String, Method> methods() {
        Map<String, Method> byName = new HashMap<>();
        for (Method m : HalfDays.class.getDeclaredMethods()) {
            if (Modifier.isPublic(m.getModifiers())) {
                byName.put(m.getName(), m);
            }
        }
        return byName;
    }

    static Call read(String text) {
        int open = text.indexOf('(');
        Method m = METHODS.get(text.substring(0, open).strip());
        String inside = text.substring(open + 1, text.lastIndexOf(')')).strip();
        String[] words = inside.isEmpty() ? new String[0] : inside.split("\\s*,\\s*");
        if (m == null || m.getParameterCount() != words.length) {
            throw new IllegalArgumentException(text);
        }
        Object[] values = new Object[words.length];
        for (int i = 0; i < words.length; i++) {
            values[i] = m.getParameterTypes()[i] == boolean.class ? (Object) Boolean.valueOf(words[i])
                    : (Object) Integer.valueOf(words[i]);
        }
        return new Call(text, m, values);
    }

    boolean isToldByStatus() {
        return TOLD_BY_STATUS.contains(method.getName());
    }

    boolean isTelling() {
        return isToldByStatus() || TOLD_BESIDES.contains(method.getName());
    }

    /** Whether it reads the tape and keeps nothing of it. */
    boolean isTried() {
        return method.getName().equals("beside");
    }

    int on(HalfDays x) {
        try {
            return (Integer) method.invoke(x, values);
        } catch (ReflectiveOperationException e) {
            throw new IllegalStateException(text, e);
        }
    }
}
