import java.io.IOException;
import java.lang.reflect.Method;
import java.lang.reflect.Modifier;
import java.nio.file.Files;
import java.nio.file.Path;
import java.util.List;
import java.util.Set;
import java.util.TreeSet;
import java.util.regex.Matcher;
import java.util.regex.Pattern;

/** The calls that README.md shows answer as it says, one behind another on one object; it shows every call. */
public final class ReadmeTest {
    private static final Pattern CALL =
        Pattern.compile("mill\\.(\\w+)\\(([^)\"]*)\\); *// (-?\\d+|NONE|BAD|STATE|FULL)\\b.*");
    private static final Pattern TELL = Pattern.compile("tell\\(mill, \"([^\"]*)\"\\); *// (-?\\d+)\\b.*");
    private static final List<String> OTHER_LINES = List.of("MillTalk mill = new MillTalk();");
    private static final Check check = new Check();
    private static final Set<String> shown = new TreeSet<>(Set.of("level"));

    public static void main(String[] args) throws IOException, ReflectiveOperationException {
        MillTalk mill = new MillTalk();
        String page = Files.readString(Path.of("README.md"));
        Matcher blocks = Pattern.compile("(?s)```java\n(.*?)```").matcher(page);
        while (blocks.find()) {
            if (!blocks.group(1).startsWith("static int tell(")) {
                for (String line : blocks.group(1).split("\n")) {
                    run(mill, line);
                }
            }
        }
        everyCallIsShown();
        check.end();
    }

    private static void run(MillTalk mill, String line) throws ReflectiveOperationException {
        Matcher call = CALL.matcher(line);
        Matcher tell = TELL.matcher(line);
        if (call.matches()) {
            shown.add(call.group(1));
            check.due(line, answer(mill, call.group(1), call.group(2)), due(call.group(3)));
        } else if (tell.matches()) {
            check.due(line, Check.tell(mill, tell.group(1)), due(tell.group(2)));
        } else {
            check.due("a line that can be run: " + line, OTHER_LINES.contains(line) ? 1 : 0, 1);
        }
    }

    private static long answer(MillTalk mill, String name, String told) throws ReflectiveOperationException {
        String[] numbers = told.isBlank() ? new String[0] : told.split(", ");
        Object[] given = new Object[numbers.length];
        for (int i = 0; i < numbers.length; i++) {
            given[i] = Integer.valueOf(numbers[i]);
        }
        for (Method method : MillTalk.class.getMethods()) {
            if (method.getName().equals(name) && method.getParameterCount() == given.length) {
                return ((Number) method.invoke(mill, given)).longValue();
            }
        }
        throw new IllegalStateException("README.md shows a call that there is not: " + name);
    }

    private static long due(String told) throws ReflectiveOperationException {
        return told.matches("-?\\d+") ? Long.parseLong(told) : MillTalk.class.getField(told).getInt(null);
    }

    private static void everyCallIsShown() {
        for (Method method : MillTalk.class.getDeclaredMethods()) {
            if (Modifier.isPublic(method.getModifiers())) {
                check.due("README.md shows " + method.getName(), shown.contains(method.getName()) ? 1 : 0, 1);
            }
        }
    }
}
