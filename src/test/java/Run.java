import java.lang.reflect.Method;
import java.util.HashMap;
import java.util.Map;

/** A new object and calls of it, written as in "room(10, 0) = 0": what stands behind "=" is the answer that is due. */
final class Run {
    private static final Map<String, Method> METHODS = new HashMap<>();

    static {
        for (Method method : RoomTails.class.getMethods()) {
            METHODS.putIfAbsent(method.getName(), method);
        }
    }

    private final Check check;
    private final RoomTails object = new RoomTails();

    Run(Check check) {
        this.check = check;
    }

    Run calls(String... lines) {
        for (String line : lines) {
            int equals = line.indexOf('=');
            String call = line.substring(0, equals).trim();
            check.due(call, answer(call), Long.parseLong(line.substring(equals + 1).trim()));
        }
        return this;
    }

    /** Calls whose answers do not matter. */
    Run after(String... calls) {
        for (String call : calls) {
            answer(call);
        }
        return this;
    }

    Run times(int times, String... calls) {
        for (int i = 0; i < times; i++) {
            after(calls);
        }
        return this;
    }

    Run text(String text) {
        object.clearText();
        for (int i = 0; i < text.length(); i++) {
            object.type(text.charAt(i));
        }
        return this;
    }

    Run faultOf(String text, int position, int reason) {
        text(text);
        check.due("fault(0) of " + text, object.fault(0), position);
        check.due("fault(1) of " + text, object.fault(1), reason);
        return this;
    }

    private int answer(String call) {
        int bracket = call.indexOf('(');
        String inside = call.substring(bracket + 1, call.lastIndexOf(')')).trim();
        String[] parts = inside.isEmpty() ? new String[0] : inside.split(",");
        Object[] arguments = new Object[parts.length];
        for (int i = 0; i < parts.length; i++) {
            arguments[i] = Integer.parseInt(parts[i].trim());
        }
        try {
            return (Integer) METHODS.get(call.substring(0, bracket)).invoke(object, arguments);
        } catch (ReflectiveOperationException e) {
            throw new IllegalStateException(call, e);
        }
    }
}
