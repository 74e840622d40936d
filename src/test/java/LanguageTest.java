import java.io.IOException;
import java.lang.reflect.Field;
import java.lang.reflect.Method;
import java.lang.reflect.Modifier;
import java.nio.file.Files;
import java.nio.file.Path;
import java.util.ArrayList;
import java.util.List;
import java.util.regex.Matcher;
import java.util.regex.Pattern;

/** Looks for the words and signs that LANGUAGE.md rules out; started where the project's folder is the present one. */
public final class LanguageTest {
    private static final Path PROGRAM = Path.of("src/main/java/RoomTails.java");
    private static final String[] RULED_OUT = {
        "\\b(throw|throws|try|catch|finally|synchronized|assert|import|package|native|volatile|transient)\\b",
        "->", "::", "@\\w", "\\bExact\\b|\\w+Exact\\s*\\(", "\\bSystem\\.(?!arraycopy\\b)", "\\bstatic\\s*\\{",
        "\\b(Object|Thread|Random|Runtime|Class|Throwable|Exception|HashMap|Scanner)\\b",
        "\\b(equals|hashCode|toString)\\s*\\(", "\\b(protected|strictfp|var|yield)\\b", "\"[^\"]*\"\\s*\\+"
    };
    private static final int MOST_LINES_OF_A_METHOD = 60;
    private static final int MOST_CLASSES = 12;
    private static final int MOST_FIELDS = 20;
    private static final int MOST_PARAMETERS = 7;

    public static void main(String[] args) throws IOException {
        Check check = new Check("LanguageTest");
        check.promise("LANGUAGE.md");
        String code = withoutComments(Files.readString(PROGRAM));
        for (String pattern : RULED_OUT) {
            Matcher matcher = Pattern.compile(pattern).matcher(code.replaceAll("'.'", "' '"));
            check.due("found " + pattern, matcher.find() ? 1 : 0, 0);
        }
        Matcher methods = Pattern.compile("(?m)^( {4}| {8})[^\\s/*].*\\) \\{\\n((?:(?!\\1\\}).*\\n)*)\\1\\}").matcher(code);
        int found = 0;
        while (methods.find()) {
            found++;
            int lines = methods.group(2).split("\n").length + 2;
            check.due("a long method: " + methods.group(0).lines().findFirst().orElse("").trim(),
                    lines > MOST_LINES_OF_A_METHOD ? lines : 0, 0);
        }
        check.due("too few methods were found", found < 60 ? found : 0, 0);
        checkClasses(check);
        check.due("signs beyond 127", code.chars().filter(sign -> sign > 127).count(), 0);
        check.end();
    }

    /** What the rules tell of the classes inside, of their fields and of the parameters of methods. */
    private static void checkClasses(Check check) {
        List<Class<?>> classes = new ArrayList<>(List.of(RoomTails.class.getDeclaredClasses()));
        check.due("classes inside that are public, not static, or hold others", classes.stream()
                .filter(it -> !Modifier.isStatic(it.getModifiers()) || Modifier.isPublic(it.getModifiers())
                        || it.getDeclaredClasses().length > 0).count(), 0);
        classes.add(RoomTails.class);
        check.due("too many classes", classes.size() > MOST_CLASSES ? classes.size() : 0, 0);
        for (Class<?> it : classes) {
            int fields = 0;
            for (Field field : it.getDeclaredFields()) {
                boolean isStatic = Modifier.isStatic(field.getModifiers());
                fields += isStatic ? 0 : 1;
                check.due(field + " is static and not final",
                        isStatic && !Modifier.isFinal(field.getModifiers()) ? 1 : 0, 0);
            }
            check.due("too many fields of " + it, fields > MOST_FIELDS ? fields : 0, 0);
            for (Method method : it.getDeclaredMethods()) {
                int parameters = method.getParameterCount();
                check.due("too many parameters of " + method, parameters > MOST_PARAMETERS ? parameters : 0, 0);
            }
        }
    }

    private static String withoutComments(String text) {
        return text.replaceAll("(?s)/\\*.*?\\*/", "").replaceAll("//.*", "");
    }
}
