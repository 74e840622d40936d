import java.lang.reflect.Constructor;
import java.lang.reflect.Field;
import java.lang.reflect.Member;
import java.lang.reflect.Method;
import java.lang.reflect.Modifier;
import java.util.Arrays;
import java.util.TreeSet;

/** The public face: its constants, constructor and methods, and nothing else that is not private. */
public final class FaceTest {
    private static final String[] METHODS = {
        "room 2", "door 5", "open 2", "refusal 2", "lock 2", "set 2", "roomOf 2", "doorOf 2", "count 1", "undo 0",
        "sound 4", "planDoor 3", "cancel 1", "plan 2", "pass 1", "way 2",
        "tail 1", "tailWith 3", "bestDoor 2", "rise 1", "peak 2", "quiet 0", "fell 2",
        "type 1", "clearText 0", "fault 1", "load 0"
    };

    public static void main(String[] args) {
        Check check = new Check("FaceTest");
        check.promise("the face");
        check.due("INVALID_ARGUMENT", RoomTails.INVALID_ARGUMENT, -1);
        check.due("NOT_POSSIBLE", RoomTails.NOT_POSSIBLE, -2);
        check.due("LIMIT_REACHED", RoomTails.LIMIT_REACHED, -3);
        check.due("NOT_FOUND", RoomTails.NOT_FOUND, -4);

        TreeSet<String> methods = new TreeSet<>();
        TreeSet<String> hidden = new TreeSet<>();
        for (Method method : RoomTails.class.getDeclaredMethods()) {
            if (!Modifier.isPrivate(method.getModifiers())) {
                boolean isOfInts = method.getReturnType() == int.class
                        && Arrays.stream(method.getParameterTypes()).allMatch(type -> type == int.class);
                check.due(method + " is public and of ints", isPlainPublic(method) && isOfInts ? 1 : 0, 1);
                methods.add(method.getName() + " " + method.getParameterCount());
            } else {
                hidden.add(method.getName());
            }
        }
        check.due("the methods " + methods, methods.equals(new TreeSet<>(Arrays.asList(METHODS))) ? 1 : 0, 1);
        for (String method : METHODS) {
            String name = method.substring(0, method.indexOf(' '));
            check.due("a private method " + name, hidden.contains(name) ? 1 : 0, 0);
        }

        int constants = 0;
        for (Field field : RoomTails.class.getDeclaredFields()) {
            constants += Modifier.isPrivate(field.getModifiers()) ? 0 : 1;
        }
        check.due("constants that are not private", constants, 4);
        Constructor<?>[] constructors = RoomTails.class.getDeclaredConstructors();
        check.due("constructors", constructors.length, 1);
        check.due("parameters of the constructor", constructors[0].getParameterCount(), 0);
        check.due("the class is final", Modifier.isFinal(RoomTails.class.getModifiers()) ? 1 : 0, 1);
        check.end();
    }

    private static boolean isPlainPublic(Member member) {
        return Modifier.isPublic(member.getModifiers()) && !Modifier.isStatic(member.getModifiers());
    }
}
