import java.io.IOException;
import java.lang.reflect.Method;
import java.lang.reflect.Modifier;
import java.nio.file.Files;
import java.nio.file.Path;
import java.util.regex.Matcher;
import java.util.regex.Pattern;

/** README.md's example, call by call: each answers the number that its comment begins with. */
public final class ReadmeTest {
    private static final Checks CHECKS = new Checks();
    private static final Pattern EXAMPLE = Pattern.compile("(?s)```java\n(.*?)```");
    private static final Pattern LINE = Pattern.compile("x\\.(\\w+)\\(([-0-9, ]*)\\);\\s*// (-?\\d+).*");

    public static void main(String[] args) throws IOException, ReflectiveOperationException {
        String readme = Files.readString(Path.of("README.md"));
        example(readme);
        everyCallIsTold(readme);
        CHECKS.finish("ReadmeTest");
    }

    private static void example(String readme) throws ReflectiveOperationException {
        Matcher block = EXAMPLE.matcher(readme);
        CHECKS.due("there is an example", block.find() ? 1 : 0, 1);
        String[] lines = block.group(1).split("\n");
        CHECKS.due("it makes an object: " + lines[0],
                lines[0].equals("SwingCircuits x = new SwingCircuits();") ? 1 : 0, 1);
        SwingCircuits x = new SwingCircuits();
        for (int i = 1; i < lines.length; i++) {
            if (!lines[i].isBlank()) {
                answersAsToldIn(lines[i], x);
            }
        }
    }

    private static void answersAsToldIn(String text, SwingCircuits x) throws ReflectiveOperationException {
        Matcher line = LINE.matcher(text);
        if (!line.matches()) {
            CHECKS.due("one call and its answer: " + text, 0, 1);
            return;
        }
        String[] told = line.group(2).isEmpty() ? new String[0] : line.group(2).split(", ");
        Object[] arguments = new Object[told.length];
        Class<?>[] types = new Class<?>[told.length];
        for (int i = 0; i < told.length; i++) {
            arguments[i] = Integer.valueOf(told[i]);
            types[i] = int.class;
        }
        Number answer = (Number) SwingCircuits.class.getMethod(line.group(1), types).invoke(x, arguments);
        CHECKS.due(text, answer.longValue(), Long.parseLong(line.group(3)));
    }

    private static void everyCallIsTold(String readme) {
        for (Method m : SwingCircuits.class.getDeclaredMethods()) {
            if (Modifier.isPublic(m.getModifiers())) {
                CHECKS.due("README.md tells of " + m.getName(), readme.contains("`" + m.getName() + "(") ? 1 : 0, 1);
            }
        }
    }
}
