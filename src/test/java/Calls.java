import java.lang.reflect.InvocationTargetException;
import java.lang.reflect.Method;
import java.util.Arrays;
import java.util.HashMap;
import java.util.Map;

/** Calls of the program that are written as texts, as in "room(10, 0)". */
final class Calls {
    /** So often an object is called at the most: what later calls answer is free. */
    static final int MOST = 512;

    private static final Map<String, Method> METHODS = new HashMap<>();
    private static final Map<String, Calls> READ = new HashMap<>();

    static {
        for (Method method : RoomTails.class.getMethods()) {
            METHODS.putIfAbsent(method.getName(), method);
        }
    }

    private final Method method;
    private final Object[] arguments;

    private Calls(String call) {
        int bracket = call.indexOf('(');
        String inside = call.substring(bracket + 1, call.lastIndexOf(')')).trim();
        method = METHODS.get(call.substring(0, bracket).trim());
        String[] parts = inside.isEmpty() ? new String[0] : inside.split(",");
        arguments = Arrays.stream(parts).map(part -> Integer.valueOf(part.trim())).toArray();
    }

    static int answer(RoomTails object, String call) {
        Calls read = READ.computeIfAbsent(call, Calls::new);
        try {
            return (Integer) read.method.invoke(object, read.arguments);
        } catch (InvocationTargetException e) {
            throw new IllegalStateException(call + " threw", e.getCause());
        } catch (ReflectiveOperationException e) {
            throw new IllegalStateException(call, e);
        }
    }

    /** What is called in "room(10, 0) = 0". */
    static String callIn(String line) {
        int equals = line.indexOf('=');
        return (equals < 0 ? line : line.substring(0, equals)).trim();
    }

    /** What is due in "room(10, 0) = 0". */
    static int dueIn(String line) {
        return Integer.parseInt(line.substring(line.indexOf('=') + 1).trim());
    }
}
