import java.lang.reflect.Method;

/**
 * Runs calls that are written one a line, each with the answer that is due: "comes(0, 0, 5) = -3".
 * A line "new" makes a new object, "text ..." puts the rest of the line on the tape (which is emptied first),
 * behind "#" stands what the lines below are about.
 */
final class Script {
    private final Check check;
    private HalfDays x = new HalfDays();
    private String about = "";

    Script(String name) {
        check = new Check(name);
    }

    HalfDays object() {
        return x;
    }

    Script run(String lines) {
        for (String line : lines.split("\n")) {
            String s = line.strip();
            if (s.startsWith("#")) {
                about = s;
            } else if (s.equals("new")) {
                x = new HalfDays();
            } else if (s.startsWith("text ")) {
                put(s.substring(5));
            } else if (!s.isEmpty()) {
                for (String part : s.split("\\|")) {
                    ask(part.strip());
                }
            }
        }
        return this;
    }

    /** Puts a text on the tape, blanks at its ends too. */
    Script put(String text) {
        x.end(0);
        check.due(about + " text " + text, Texts.put(x, text) ? 1 : 0, 1);
        return this;
    }

    private void ask(String s) {
        int equals = s.lastIndexOf('=');
        String call = s.substring(0, equals).strip();
        due(call, Long.parseLong(s.substring(equals + 1).strip()));
    }

    Script due(String call, long want) {
        check.due(about + " " + call, answer(call), want);
        return this;
    }

    private long answer(String call) {
        int open = call.indexOf('(');
        String name = call.substring(0, open);
        String inside = call.substring(open + 1, call.lastIndexOf(')')).strip();
        String[] words = inside.isEmpty() ? new String[0] : inside.split("\\s*,\\s*");
        for (Method m : HalfDays.class.getDeclaredMethods()) {
            if (m.getName().equals(name) && m.getParameterCount() == words.length) {
                return invoke(m, words);
            }
        }
        throw new IllegalArgumentException(call);
    }

    private long invoke(Method m, String[] words) {
        Object[] values = new Object[words.length];
        for (int i = 0; i < words.length; i++) {
            values[i] = m.getParameterTypes()[i] == boolean.class ? (Object) Boolean.valueOf(words[i])
                    : (Object) Integer.valueOf(words[i]);
        }
        try {
            return ((Integer) m.invoke(x, values)).longValue();
        } catch (ReflectiveOperationException e) {
            throw new IllegalStateException(about + " " + m.getName(), e);
        }
    }

    void close() {
        check.close();
    }
}
