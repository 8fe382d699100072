import java.io.IOException;
import java.lang.reflect.Method;
import java.nio.file.Files;
import java.nio.file.Path;
import java.util.HashMap;
import java.util.List;
import java.util.Map;
import java.util.regex.Matcher;
import java.util.regex.Pattern;

/** The example of README.md: each call answers what stands behind it. */
public final class ReadmeTest {
    private static final Pattern CALL =
            Pattern.compile("(?:int (\\w+) = )?x\\.(\\w+)\\((.*)\\);\\s*// (-?\\d+|true|false)\\b.*");
    private static final Due due = new Due("ReadmeTest");

    private final SiteSealer x = new SiteSealer();
    private final Map<String, String> names = new HashMap<>();

    public static void main(String[] args) throws IOException, ReflectiveOperationException {
        List<String> lines = Files.readAllLines(Path.of("README.md"));
        int from = lines.indexOf("```java");
        int to = from + lines.subList(from, lines.size()).indexOf("```");
        due.text("the first line", lines.get(from + 1), "SiteSealer x = new SiteSealer();");
        ReadmeTest test = new ReadmeTest();
        int calls = 0;
        for (String line : lines.subList(from + 2, to)) {
            if (!line.isEmpty()) {
                test.make(line);
                calls++;
            }
        }
        due.is("the example has calls", calls > 20, true);
        due.end();
    }

    private void make(String line) throws ReflectiveOperationException {
        Matcher call = CALL.matcher(line);
        due.is("a call with its answer: " + line, call.matches(), true);
        if (!call.matches()) {
            return;
        }
        String answer = String.valueOf(invoke(call.group(2), call.group(3).isEmpty() ? new String[0] : call.group(3).split(", ")));
        due.text(line, answer, call.group(4));
        if (call.group(1) != null) {
            names.put(call.group(1), answer);
        }
    }

    private Object invoke(String name, String[] texts) throws ReflectiveOperationException {
        for (Method m : SiteSealer.class.getMethods()) {
            if (m.getName().equals(name)) {
                Object[] arguments = new Object[texts.length];
                for (int i = 0; i < texts.length; i++) {
                    arguments[i] = value(m.getParameterTypes()[i], names.getOrDefault(texts[i], texts[i]));
                }
                return m.invoke(x, arguments);
            }
        }
        return "no such call";
    }

    private static Object value(Class<?> type, String text) {
        if (type == boolean.class) {
            return Boolean.valueOf(text);
        }
        long number = Long.decode(text.replace("L", ""));
        if (type == long.class) {
            return number;
        }
        return (int) number;
    }
}
