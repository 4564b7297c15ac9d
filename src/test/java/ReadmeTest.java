import java.io.IOException;
import java.lang.reflect.Method;
import java.lang.reflect.Modifier;
import java.nio.file.Files;
import java.nio.file.Path;
import java.util.ArrayList;
import java.util.List;
import java.util.regex.Matcher;
import java.util.regex.Pattern;

/** README.md shows calls with their answers, and names each call of the face. Run from the project's root. */
public final class ReadmeTest {
    private static final Pattern SHOWN = Pattern.compile("x\\.(\\w+)\\(([^)]*)\\); *// (-?\\d+): .*");

    private static List<String> linesOfTheExample(String readme) {
        List<String> lines = new ArrayList<>();
        int from = readme.indexOf("```java\n");
        int to = readme.indexOf("```", from + 3);
        Due.holds("there is an example", from >= 0 && to > from);
        if (from >= 0 && to > from) {
            for (String line : readme.substring(from + 8, to).split("\n")) {
                lines.add(line);
            }
        }
        return lines;
    }

    private static Object given(String text, Class<?> type) {
        if (type == boolean.class) {
            return Boolean.valueOf(text);
        }
        if (type == long.class) {
            return Long.valueOf(text);
        }
        return Integer.valueOf(text);
    }

    private static Method named(String name) {
        for (Method method : TapeDecks.class.getDeclaredMethods()) {
            if (Modifier.isPublic(method.getModifiers()) && method.getName().equals(name)) {
                return method;
            }
        }
        throw new IllegalArgumentException("no call " + name);
    }

    private static long answer(TapeDecks x, String name, String arguments) throws ReflectiveOperationException {
        Method method = named(name);
        Class<?>[] types = method.getParameterTypes();
        String[] texts = arguments.isEmpty() ? new String[0] : arguments.split(", ");
        Object[] values = new Object[texts.length];
        for (int k = 0; k < texts.length; k++) {
            values[k] = given(texts[k], types[k]);
        }
        return ((Number) method.invoke(x, values)).longValue();
    }

    private static void example(String readme) throws ReflectiveOperationException {
        List<String> lines = linesOfTheExample(readme);
        Due.holds("it begins with an object", !lines.isEmpty() && lines.get(0).equals("TapeDecks x = new TapeDecks();"));
        TapeDecks x = new TapeDecks();
        for (int k = 1; k < lines.size(); k++) {
            Matcher shown = SHOWN.matcher(lines.get(k));
            Due.holds("a call with its answer: " + lines.get(k), shown.matches());
            if (shown.matches()) {
                Due.is(lines.get(k), answer(x, shown.group(1), shown.group(2)), Long.parseLong(shown.group(3)));
            }
        }
    }

    private static void callsOfTheFace(String readme) {
        for (Method method : TapeDecks.class.getDeclaredMethods()) {
            if (Modifier.isPublic(method.getModifiers())) {
                Due.holds("the calls name " + method.getName(),
                        Pattern.compile("(?m)^\\| .*`" + method.getName() + "`.* \\|$").matcher(readme).find());
            }
        }
    }

    private static void tests(String readme) throws IOException {
        try (var files = Files.list(Path.of("src/test/java"))) {
            for (Path file : files.toList()) {
                String name = file.getFileName().toString().replace(".java", "");
                Due.holds("the tests name " + name, name.equals("Due") || readme.contains("`" + name + "`"));
            }
        }
    }

    public static void main(String[] args) throws IOException, ReflectiveOperationException {
        String readme = Files.readString(Path.of("README.md"));
        example(readme);
        callsOfTheFace(readme);
        tests(readme);
        Due.end();
    }
}
