import java.lang.reflect.Method;
import java.lang.reflect.Modifier;
import java.util.HashMap;
import java.util.Map;

/**
 * A new NextOneKnows, called by lines of text: a call's name and its numbers with blanks between ("doing 0 2 4 1 30 9").
 * "text .." feeds each sign of what follows, "posted .." posts it, too; "9* .." calls nine times. MIN and MAX are the
 * ends of int, LMIN and LMAX those of long, NO is the document's.
 */
final class Script {
    // What later calls answer is free: no test may look at it.
    private static final int CALLS = 512;
    private static final Map<String, Method> FACE = face();

    private final NextOneKnows x = new NextOneKnows();
    private int calls;

    private static Map<String, Method> face() {
        Map<String, Method> face = new HashMap<>();
        for (Method method : NextOneKnows.class.getDeclaredMethods()) {
            if (Modifier.isPublic(method.getModifiers())) {
                face.put(method.getName(), method);
            }
        }
        return face;
    }

    static Script after(String lines) {
        Script script = new Script();
        for (String line : lines.split("\n")) {
            if (!line.isBlank()) {
                script.call(line.strip());
            }
        }
        return script;
    }

    /** What a line's last call answers. */
    long call(String line) {
        int blank = line.indexOf(' ');
        String word = blank < 0 ? line : line.substring(0, blank);
        String rest = blank < 0 ? "" : line.substring(blank + 1);
        if (word.equals("text")) {
            return fed(rest);
        }
        if (word.equals("posted")) {
            fed(rest);
            return one("post", new String[0]);
        }
        if (word.endsWith("*")) {
            long last = 0;
            for (int k = Integer.parseInt(word.substring(0, word.length() - 1)); k > 0; k--) {
                last = call(rest);
            }
            return last;
        }
        return one(word, rest.isEmpty() ? new String[0] : rest.split(" +"));
    }

    private long fed(String text) {
        long many = 0;
        for (int k = 0; k < text.length(); k++) {
            many = one("feed", new String[] {"" + (int) text.charAt(k)});
        }
        return many;
    }

    private long one(String name, String[] told) {
        calls++;
        if (calls > CALLS) {
            throw new IllegalStateException("more than " + CALLS + " calls of one object");
        }
        Method method = FACE.get(name);
        Class<?>[] types = method.getParameterTypes();
        if (types.length != told.length) {
            throw new IllegalArgumentException(name + " with " + told.length + " numbers");
        }
        Object[] numbers = new Object[told.length];
        for (int k = 0; k < told.length; k++) {
            long n = number(told[k]);
            numbers[k] = types[k] == boolean.class ? (Object) (n != 0) : types[k] == long.class ? (Object) n : (Object) Math.toIntExact(n);
        }
        try {
            return ((Number) method.invoke(x, numbers)).longValue();
        } catch (ReflectiveOperationException e) {
            throw new IllegalStateException(name + " " + String.join(" ", told), e);
        }
    }

    static long number(String told) {
        switch (told) {
            case "MIN": return Integer.MIN_VALUE;
            case "MAX": return Integer.MAX_VALUE;
            case "LMIN": case "NO": return Long.MIN_VALUE;
            case "LMAX": return Long.MAX_VALUE;
            default: return Long.parseLong(told);
        }
    }
}
