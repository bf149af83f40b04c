import java.io.IOException;
import java.lang.reflect.Method;
import java.lang.reflect.Modifier;
import java.nio.file.Files;
import java.nio.file.Path;
import java.util.regex.Matcher;
import java.util.regex.Pattern;

/** README.md: its examples answer what they say, and it has a row for each call of the face. */
public final class ReadmeTest {
    private static final Pattern MADE = Pattern.compile("AirClock x = new AirClock\\(\\);");
    private static final Pattern CALL = Pattern.compile("x\\.(\\w+)\\(([-\\d, ]*)\\); +// (-?\\d+)(:.*)?");

    private ReadmeTest() {
    }

    public static void main(String[] args) throws IOException, ReflectiveOperationException {
        String text = Files.readString(Path.of("README.md"));
        Matcher block = Pattern.compile("(?s)```java\n(.*?)```").matcher(text);
        int blocks = 0;
        while (block.find()) {
            blocks++;
            example(block.group(1));
        }
        Due.holds("there are examples", blocks > 0);
        rows(text);
        Due.holds("it names the command that runs all tests", text.contains("\n    .ci/run\n"));
        Due.end();
    }

    private static void example(String lines) throws ReflectiveOperationException {
        AirClock x = null;
        for (String line : lines.split("\n")) {
            Matcher call = CALL.matcher(line);
            if (MADE.matcher(line).matches()) {
                x = new AirClock();
            } else if (x != null && call.matches()) {
                Due.is(line, answer(x, call.group(1), call.group(2)), Long.parseLong(call.group(3)));
            } else {
                Due.holds("a line that can be tried: " + line, false);
            }
        }
    }

    private static long answer(AirClock x, String name, String given) throws ReflectiveOperationException {
        String[] parts = given.isBlank() ? new String[0] : given.split(",");
        Object[] values = new Object[parts.length];
        Class<?>[] types = new Class<?>[parts.length];
        for (int i = 0; i < parts.length; i++) {
            values[i] = Integer.parseInt(parts[i].trim());
            types[i] = int.class;
        }
        return ((Number) AirClock.class.getMethod(name, types).invoke(x, values)).longValue();
    }

    private static void rows(String text) {
        for (Method m : AirClock.class.getDeclaredMethods()) {
            if (Modifier.isPublic(m.getModifiers())) {
                Matcher row = Pattern.compile("\n\\| `" + m.getName() + "\\(([^)]*)\\)` \\|").matcher(text);
                boolean there = row.find();
                Due.holds("a row for " + m.getName(), there);
                int named = there && !row.group(1).isEmpty() ? row.group(1).split(",").length : 0;
                Due.is("parameters of " + m.getName() + " in its row", named, m.getParameterCount());
            }
        }
    }
}
