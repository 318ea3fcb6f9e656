import java.lang.reflect.InvocationTargetException;
import java.lang.reflect.Method;
import java.lang.reflect.Modifier;
import java.util.ArrayList;
import java.util.HashMap;
import java.util.List;
import java.util.Map;

/** One new object and the calls it gets, each written as in "load 0 10"; a flag is true or 1. */
final class Run {
    /** The document promises nothing beyond so many calls of one object. */
    static final int CALLS = 512;
    private static final Map<String, Method> FACE = new HashMap<>();

    static {
        for (Method method : CoastWatch.class.getDeclaredMethods()) {
            if (Modifier.isPublic(method.getModifiers())) {
                FACE.put(method.getName(), method);
            }
        }
    }

    private final CoastWatch watch = new CoastWatch();
    private final Check check;
    private int calls = 0;

    Run(Check check) {
        this.check = check;
    }

    long ask(String call) {
        calls++;
        if (calls > CALLS) {
            throw new IllegalStateException("a run of more than " + CALLS + " calls");
        }
        String[] words = call.trim().split(" +");
        Method asked = FACE.get(words[0]);
        if (asked == null || asked.getParameterCount() != words.length - 1) {
            throw new IllegalArgumentException(call);
        }
        Class<?>[] types = asked.getParameterTypes();
        Object[] arguments = new Object[types.length];
        for (int i = 0; i < types.length; i++) {
            arguments[i] = argument(types[i], words[i + 1]);
        }
        try {
            return ((Number) asked.invoke(watch, arguments)).longValue();
        } catch (IllegalAccessException | InvocationTargetException broken) {
            throw new IllegalStateException(call, broken);
        }
    }

    private static Object argument(Class<?> type, String word) {
        if (type == boolean.class) {
            return word.equals("true") || word.equals("1");
        }
        return Integer.valueOf(word);
    }

    Run due(String call, long want) {
        check.due(call, ask(call), want);
        return this;
    }

    /** Each line is a call alone, or a call and the answer that is due: "load 0 10 = 10". */
    Run lines(String... lines) {
        for (String line : lines) {
            int sign = line.indexOf('=');
            if (sign < 0) {
                ask(line);
            } else {
                due(line.substring(0, sign).trim(), Long.parseLong(line.substring(sign + 1).trim()));
            }
        }
        return this;
    }

    /** How many refusals of each number there were so far, -1 first. */
    List<Long> refusals() {
        List<Long> counts = new ArrayList<>();
        for (int what = 11; what <= 17; what++) {
            counts.add(ask("count " + what));
        }
        return counts;
    }
}
