import java.lang.reflect.Method;
import java.util.HashMap;
import java.util.Map;

/** Calls of an OverFence told as texts, as the issues tell them: kick(0, 3). */
final class Calls {
    private static final Map<String, Method> FACE = new HashMap<>();

    static {
        for (Method m : OverFence.class.getMethods()) {
            if (m.getDeclaringClass() == OverFence.class) FACE.put(m.getName(), m);
        }
    }

    private Calls() {
    }

    static long call(OverFence x, String text) {
        int open = text.indexOf('(');
        Method method = FACE.get(text.substring(0, open));
        String inside = text.substring(open + 1, text.length() - 1).trim();
        String[] told = inside.isEmpty() ? new String[0] : inside.split(",");
        Object[] numbers = new Object[told.length];
        for (int i = 0; i < told.length; i++) numbers[i] = Integer.parseInt(told[i].trim());
        try {
            return ((Number) method.invoke(x, numbers)).longValue();
        } catch (ReflectiveOperationException e) {
            throw new AssertionError(text, e);
        }
    }

    /**
     * All that can be found out of an object, what lies under THE IMAGE and on THE TAPE too;
     * the object is used up by it.
     */
    static String probed(OverFence x) {
        StringBuilder all = new StringBuilder(Check.seen(x));
        String[] asked = {"turn(0)", "turn(1)", "need(0)", "need(9)", "bar(0)", "bar(1)", "round(2, 0, 0)",
            "round(2, 1, 0)", "round(2, 2, 0)", "round(2, 3, 0)", "cover(0)", "cover(1)", "owes(0, 1, 0)",
            "yard()", "told(10)", "told(11)", "height(0, 5)", "undo()"};
        for (String call : asked) all.append(' ').append(call).append('=').append(call(x, call));
        all.append(" / ").append(Check.seen(x));
        return all.append(x.yard()).append(' ').append(x.told(10)).append(' ').append(x.told(11)).toString();
    }
}
