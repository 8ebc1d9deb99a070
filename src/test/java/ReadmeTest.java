import java.io.IOException;
import java.lang.reflect.Method;
import java.lang.reflect.Modifier;
import java.nio.file.DirectoryStream;
import java.nio.file.Files;
import java.nio.file.Path;
import java.util.regex.Matcher;
import java.util.regex.Pattern;

/** README.md says what is so: its example's answers are due, and its tables leave out no call and no test. */
public final class ReadmeTest {
    private static final Pattern EXAMPLE = Pattern.compile("(?s)```java\n(.*?)```");
    private static final Pattern CALL = Pattern.compile("x\\.(\\w+)\\((.*)\\); +// (true|-?\\d+)\\b.*");
    private static final Pattern TEXT = Pattern.compile("for .*\"(.*)\"\\.toCharArray.*");
    private static final Checks CHECKS = new Checks();

    public static void main(String[] args) throws IOException, ReflectiveOperationException {
        String readme = Files.readString(Path.of("README.md"));
        theExampleHolds(readme);
        noCallIsLeftOut(readme);
        noTestIsLeftOut(readme);
        CHECKS.end();
    }

    private static void theExampleHolds(String readme) throws ReflectiveOperationException {
        Matcher example = EXAMPLE.matcher(readme);
        CHECKS.holds("there is an example", example.find());
        StatePuzzles x = new StatePuzzles();
        int tried = 0;
        for (String line : example.group(1).split("\n")) {
            Matcher text = TEXT.matcher(line);
            if (text.matches()) {
                text.group(1).chars().forEach(x::unit);
            }
            Matcher call = CALL.matcher(line);
            if (call.matches()) {
                Object got = answer(x, call.group(1), call.group(2).split(", "));
                CHECKS.holds("README.md: " + line + " (it answered " + got + ")", call.group(3).equals(got.toString()));
                tried++;
            }
        }
        int calls = example.group(1).split("\nx\\.").length - 1;
        CHECKS.due("calls of the example that were tried", tried, calls);
    }

    private static Object answer(StatePuzzles x, String name, String[] texts) throws ReflectiveOperationException {
        for (Method method : StatePuzzles.class.getMethods()) {
            if (method.getName().equals(name)) {
                Class<?>[] types = method.getParameterTypes();
                Object[] values = new Object[types.length];
                for (int i = 0; i < types.length; i++) {
                    values[i] = value(types[i], texts[i]);
                }
                return method.invoke(x, values);
            }
        }
        return "no such call";
    }

    private static Object value(Class<?> type, String text) {
        if (type == boolean.class) {
            return Boolean.valueOf(text);
        }
        if (type == long.class) {
            return Long.valueOf(text);
        }
        return Integer.valueOf(text);
    }

    private static void noCallIsLeftOut(String readme) {
        for (Method method : StatePuzzles.class.getDeclaredMethods()) {
            if (Modifier.isPublic(method.getModifiers())) {
                CHECKS.holds("README.md tells of " + method, readme.contains("\n| `" + method.getName() + "("));
            }
        }
    }

    private static void noTestIsLeftOut(String readme) throws IOException {
        try (DirectoryStream<Path> files = Files.newDirectoryStream(Path.of("src/test/java"), "*Test.java")) {
            for (Path file : files) {
                String name = file.getFileName().toString().replace(".java", "");
                CHECKS.holds("README.md tells of " + name, readme.contains("`" + name + "`"));
            }
        }
    }
}
