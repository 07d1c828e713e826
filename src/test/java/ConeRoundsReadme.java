import java.io.IOException;
import java.lang.reflect.Method;
import java.lang.reflect.Modifier;
import java.nio.file.Files;
import java.nio.file.Path;
import java.util.regex.Matcher;
import java.util.regex.Pattern;

/** The example of README.md answers as it says there, and every call is named there. */
public final class ConeRoundsReadme {
    private static final Pattern BLOCK = Pattern.compile("(?s)```java\n(.*?)```");
    private static final Pattern CALL =
        Pattern.compile("x\\.(\\w+)\\(([-\\d, ]*)\\);\\s+// (-?\\d+)(:.*)?");
    private static int wrong = 0;

    private static void fault(String text) {
        wrong++;
        System.out.println(text);
    }

    private static Method method(String name, int parameters) {
        for (Method m : ConeRounds.class.getDeclaredMethods()) {
            if (Modifier.isPublic(m.getModifiers()) && m.getName().equals(name)
                && m.getParameterCount() == parameters) {
                return m;
            }
        }
        return null;
    }

    private static Object[] numbers(String text) {
        if (text.isBlank()) {
            return new Object[0];
        }
        String[] parts = text.split(",");
        Object[] row = new Object[parts.length];
        for (int i = 0; i < parts.length; i++) {
            row[i] = Integer.valueOf(parts[i].trim());
        }
        return row;
    }

    private static void askLine(ConeRounds x, String line) throws ReflectiveOperationException {
        Matcher call = CALL.matcher(line);
        if (!call.matches()) {
            fault("no call with its answer: " + line);
            return;
        }
        Object[] args = numbers(call.group(2));
        Method asked = method(call.group(1), args.length);
        if (asked == null) {
            fault("there is no such call: " + line);
            return;
        }
        Object got = asked.invoke(x, args);
        if (!got.equals(Integer.valueOf(call.group(3)))) {
            fault("answered " + got + ": " + line);
        }
    }

    private static int askExample(String text) throws ReflectiveOperationException {
        Matcher block = BLOCK.matcher(text);
        if (!block.find()) {
            return 0;
        }
        ConeRounds x = new ConeRounds();
        int calls = 0;
        for (String line : block.group(1).split("\n")) {
            if (!line.isBlank() && !line.startsWith("ConeRounds x")) {
                askLine(x, line.trim());
                calls++;
            }
        }
        return calls;
    }

    public static void main(String[] args) throws IOException, ReflectiveOperationException {
        String text = Files.readString(Path.of("README.md"));
        if (askExample(text) == 0) {
            fault("README.md has no example");
        }
        for (Method m : ConeRounds.class.getDeclaredMethods()) {
            if (Modifier.isPublic(m.getModifiers()) && !text.contains("`" + m.getName() + "`")) {
                fault("README.md doesn't name " + m.getName());
            }
        }
        System.out.println(wrong == 0 ? "README.md tells it as it is" : wrong + " rows are wrong");
        if (wrong != 0) {
            System.exit(1);
        }
    }
}
