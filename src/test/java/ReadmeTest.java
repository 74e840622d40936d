import java.io.IOException;
import java.lang.reflect.Method;
import java.lang.reflect.Modifier;
import java.nio.file.Files;
import java.nio.file.Path;
import java.util.Arrays;
import java.util.List;
import java.util.TreeSet;
import java.util.regex.Matcher;
import java.util.regex.Pattern;

/** What README.md shows of calls and answers; started where the project's folder is the present one. */
public final class ReadmeTest {
    private static final Path PAGE = Path.of("README.md");
    private static final Pattern CALL = Pattern.compile("house\\.(\\w+\\([-\\d, ]*\\)); +// (-?\\d+): \\S.*");
    private static final Pattern TYPED = Pattern.compile("for \\(char character : \"(.*)\"\\.toCharArray\\(\\)\\) \\{");
    private static final Pattern LISTED = Pattern.compile("(?m)^- `(\\w+)\\(([\\w, ]*)\\)`");
    private static final Pattern ASKED = Pattern.compile("(?m)^\\| (\\d+) +\\|(.*)\\|(.*)\\|(.*)\\|$");
    private static final Pattern ERROR = Pattern.compile("(?m)^\\| (-\\d) +\\| `(\\w+)`");

    private final Check check;
    private final String page;
    private RoomTails house = new RoomTails();
    private int made;

    private ReadmeTest(Check check, String page) {
        this.check = check;
        this.page = page;
    }

    public static void main(String[] args) throws IOException, ReflectiveOperationException {
        Check check = new Check("ReadmeTest");
        check.promise("README.md");
        ReadmeTest test = new ReadmeTest(check, Files.readString(PAGE));
        test.calls();
        test.list();
        test.whatCanBeAsked();
        test.errors();
        check.end();
    }

    private void calls() {
        Matcher blocks = Pattern.compile("(?s)```java\n(.*?)```").matcher(page);
        int found = 0;
        while (blocks.find()) {
            found++;
            List<String> lines = blocks.group(1).lines().toList();
            for (int i = 0; i < lines.size(); i++) {
                Matcher typed = TYPED.matcher(lines.get(i));
                if (typed.matches()) {
                    check.due("the loop behind " + lines.get(i), isLoop(lines, i) ? 1 : 0, 1);
                    typed.group(1).chars().forEach(character -> answer("type(" + character + ")"));
                    i += 2;
                } else {
                    call(lines.get(i));
                }
            }
        }
        check.due("blocks of calls", found, 3);
    }

    private static boolean isLoop(List<String> lines, int first) {
        return first + 2 < lines.size() && lines.get(first + 1).equals("    house.type(character);")
                && lines.get(first + 2).equals("}");
    }

    private void call(String line) {
        if (line.equals("RoomTails house = new RoomTails();")) {
            house = new RoomTails();
            made = 0;
            return;
        }
        Matcher call = CALL.matcher(line);
        boolean isCall = call.matches();
        check.due("a call and its answer: " + line, isCall ? 1 : 0, 1);
        if (isCall) {
            check.due(call.group(1), answer(call.group(1)), Integer.parseInt(call.group(2)));
        }
    }

    private int answer(String call) {
        made++;
        check.due("a call too many: " + call, made > Calls.MOST ? 1 : 0, 0);
        return Calls.answer(house, call);
    }

    /** Each call of the face stands in the list once, with all its arguments. */
    private void list() {
        TreeSet<String> listed = new TreeSet<>();
        Matcher matcher = LISTED.matcher(page);
        int found = 0;
        while (matcher.find()) {
            found++;
            listed.add(matcher.group(1) + " " + (matcher.group(2).isEmpty() ? 0 : matcher.group(2).split(",").length));
        }
        TreeSet<String> face = new TreeSet<>();
        for (Method method : RoomTails.class.getDeclaredMethods()) {
            if (Modifier.isPublic(method.getModifiers())) {
                face.add(method.getName() + " " + method.getParameterCount());
            }
        }
        check.due("the calls listed, " + listed, listed.equals(face) ? 1 : 0, 1);
        check.due("calls listed", found, 27);
    }

    /** What the table leaves empty is out of range, and nothing else is. */
    private void whatCanBeAsked() {
        String[][] cells = new String[30][3];
        Matcher matcher = ASKED.matcher(page);
        while (matcher.find()) {
            int what = Integer.parseInt(matcher.group(1));
            for (int i = 0; i < 3; i++) {
                cells[what][i] = matcher.group(i + 2);
            }
        }
        house = new RoomTails();
        made = 0;
        Arrays.asList("room(10, 0)", "door(0, 8, 1, 1, 0)").forEach(this::answer);
        for (int what = 0; what < cells.length; what++) {
            String[] calls = {"roomOf(0, " + what + ")", "doorOf(0, " + what + ")", "count(" + what + ")"};
            for (int i = 0; i < calls.length; i++) {
                boolean isThere = cells[what][i] != null && !cells[what][i].isBlank();
                boolean isAnswered = answer(calls[i]) != RoomTails.INVALID_ARGUMENT;
                check.due("the table has " + calls[i], isThere ? 1 : 0, isAnswered ? 1 : 0);
            }
        }
    }

    private void errors() throws ReflectiveOperationException {
        Matcher matcher = ERROR.matcher(page);
        int found = 0;
        while (matcher.find()) {
            found++;
            int constant = RoomTails.class.getField(matcher.group(2)).getInt(null);
            check.due(matcher.group(2), Integer.parseInt(matcher.group(1)), constant);
        }
        check.due("errors in the table", found, 4);
    }
}
