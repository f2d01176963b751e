import java.lang.reflect.InvocationTargetException;
import java.lang.reflect.Method;
import java.lang.reflect.Modifier;
import java.util.HashMap;
import java.util.Map;

/**
 * A run of calls on a new object. It is told as a text: in each line a call as one writes it in
 * Java, then "=" and the answer that is due; behind "//" stands a remark.
 */
final class Run {
    private static final Map<String, Method> METHODS = methods();

    private final Nearplaces places = new Nearplaces();
    private int calls = 0;

    private static Map<String, Method> methods() {
        Map<String, Method> methods = new HashMap<>();
        for (Method method : Nearplaces.class.getDeclaredMethods()) {
            if (Modifier.isPublic(method.getModifiers())) {
                methods.put(method.getName(), method);
            }
        }
        return methods;
    }

    static void test(String name, String text) {
        Check.test(name, () -> new Run().due(text));
    }

    Run due(String text) {
        for (String line : text.split("\n")) {
            String told = line.contains("//") ? line.substring(0, line.indexOf("//")) : line;
            int equal = told.indexOf('=');
            if (equal >= 0) {
                due(told.substring(0, equal).strip(), told.substring(equal + 1).strip());
            } else if (!told.isBlank()) {
                throw new IllegalStateException("no answer is told in: " + line);
            }
        }
        return this;
    }

    void due(String call, String due) {
        calls++;
        String number = due.startsWith("0x") ? "" + Integer.parseUnsignedInt(due.substring(2), 16) : due;
        Check.due("call " + calls + ", " + call + ",", number, () -> answer(call));
    }

    /** Runs a call whose answer does not matter here, and tells it. */
    String answer(String call) {
        int open = call.indexOf('(');
        Method method = METHODS.get(call.substring(0, open));
        if (method == null || !call.endsWith(")")) {
            throw new IllegalStateException("no such call: " + call);
        }
        String told = call.substring(open + 1, call.length() - 1).strip();
        String[] texts = told.isEmpty() ? new String[0] : told.split(",");
        Object[] given = new Object[texts.length];
        for (int i = 0; i < texts.length; i++) {
            given[i] = argument(texts[i].strip());
        }
        requireFits(call, method, given);
        return answer(method, given);
    }

    /** Otherwise invoke() throws what the call itself may be due to throw. */
    private static void requireFits(String call, Method method, Object[] given) {
        Class<?>[] types = method.getParameterTypes();
        boolean isFit = types.length == given.length;
        for (int i = 0; isFit && i < types.length; i++) {
            isFit = types[i] == (given[i] instanceof Boolean ? boolean.class : int.class);
        }
        if (!isFit) {
            throw new IllegalStateException("no such arguments: " + call);
        }
    }

    private static Object argument(String text) {
        if (text.equals("true") || text.equals("false")) {
            return text.equals("true");
        }
        return text.startsWith("0x") ? Integer.parseUnsignedInt(text.substring(2), 16) : Integer.parseInt(text);
    }

    private String answer(Method method, Object[] given) {
        try {
            return String.valueOf(method.invoke(places, given));
        } catch (InvocationTargetException thrown) {
            return "throws." + thrown.getCause().getClass().getSimpleName();
        } catch (IllegalAccessException thrown) {
            throw new IllegalStateException(thrown);
        }
    }

    /** All that can be asked of the cells and the counts: what changes nothing leaves this alone. */
    String state() {
        StringBuilder text = new StringBuilder();
        for (int cell = 0; cell < 8; cell++) {
            text.append(answer("parts(false, " + cell + ")")).append(", ");
            text.append(answer("parts(true, " + cell + ")")).append(", ");
        }
        for (int what = 0; what < 4; what++) {
            text.append(answer("house(" + what + ")")).append(' ');
        }
        return text.append(answer("digest()")).toString();
    }
}
