import java.io.IOException;
import java.lang.reflect.Method;
import java.nio.file.Files;
import java.nio.file.Path;
import java.util.ArrayList;
import java.util.List;
import java.util.regex.Matcher;
import java.util.regex.Pattern;

/** Each line of Java in README.md, in its order: what it answers is the number that stands behind it. */
public final class ReadmeTest {
    private static final Pattern FRESH = Pattern.compile("HandShakes x = new HandShakes\\(\\);");
    private static final Pattern CALL = Pattern.compile("x\\.(\\w+)\\(([-0-9, ]*)\\); +// (-?\\d+)\\b.*");
    private static final Pattern TEXT = Pattern.compile("Tape\\.(\\w+)\\(x, \"([^\"]*)\"\\); +// (-?\\d+)\\b.*");
    private static int wrong = 0;
    private static int asked = 0;

    private ReadmeTest() {
    }

    public static void main(String[] args) throws IOException, ReflectiveOperationException {
        HandShakes x = new HandShakes();
        for (String line : javaLines()) {
            x = FRESH.matcher(line).matches() ? new HandShakes() : ask(x, line);
        }
        if (asked == 0) {
            fault("README.md has no Java");
        }
        System.out.println(wrong == 0 ? asked + " lines of README.md hold" : wrong + " lines of README.md do not hold");
        if (wrong != 0) {
            System.exit(1);
        }
    }

    private static List<String> javaLines() throws IOException {
        List<String> lines = new ArrayList<>();
        boolean inside = false;
        for (String line : Files.readAllLines(Path.of("README.md"))) {
            if (line.startsWith("```")) {
                inside = line.equals("```java");
            } else if (inside) {
                lines.add(line);
            }
        }
        return lines;
    }

    private static HandShakes ask(HandShakes x, String line) throws ReflectiveOperationException {
        Matcher call = CALL.matcher(line);
        Matcher text = TEXT.matcher(line);
        asked++;
        if (call.matches()) {
            due(line, called(x, call.group(1), call.group(2)), Long.parseLong(call.group(3)));
        } else if (text.matches()) {
            Method method = Tape.class.getDeclaredMethod(text.group(1), HandShakes.class, String.class);
            due(line, ((Number) method.invoke(null, x, text.group(2))).longValue(), Long.parseLong(text.group(3)));
        } else {
            fault("no line that can be asked: " + line);
        }
        return x;
    }

    private static long called(HandShakes x, String name, String numbers) throws ReflectiveOperationException {
        String[] parts = numbers.isEmpty() ? new String[0] : numbers.split(", ");
        Class<?>[] types = new Class<?>[parts.length];
        Object[] values = new Object[parts.length];
        for (int i = 0; i < parts.length; i++) {
            types[i] = int.class;
            values[i] = Integer.valueOf(parts[i]);
        }
        return ((Number) HandShakes.class.getMethod(name, types).invoke(x, values)).longValue();
    }

    private static void due(String line, long got, long want) {
        if (got != want) {
            fault(line + " answered " + got);
        }
    }

    private static void fault(String what) {
        wrong++;
        System.out.println(what);
    }
}
