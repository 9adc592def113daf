import java.io.IOException;
import java.lang.reflect.Method;
import java.nio.file.Files;
import java.nio.file.Path;
import java.util.List;
import java.util.regex.Matcher;
import java.util.regex.Pattern;

/** The example of README.md: each call answers what stands behind it there. */
public final class ReadmeTest extends Checks {
    private static final Path README = Path.of("README.md");
    private static final String START = "ScriptStack x = new ScriptStack();";
    private static final Pattern CALL = Pattern.compile("x\\.(\\w+)\\(([^)]*)\\);\\s+// (-?\\w+)(:.*)?");

    public static void main(String[] args) throws IOException, ReflectiveOperationException {
        about("README.md");
        List<String> example = example();
        due("the example begins with a new object", example.get(0), START);
        ScriptStack x = new ScriptStack();
        int calls = 0;
        for (String line : example.subList(1, example.size())) {
            if (!line.isBlank()) {
                calls++;
                check(x, line);
            }
        }
        // an example that was not found, or lost its calls, would prove nothing
        due("the example has ten calls or more", calls >= 10, true);
        finish("the example of README.md is as due");
    }

    private static List<String> example() throws IOException {
        List<String> lines = Files.readAllLines(README);
        int start = lines.indexOf("```java") + 1;
        List<String> rest = lines.subList(start, lines.size());
        return rest.subList(0, Math.max(1, rest.indexOf("```")));
    }

    private static void check(ScriptStack x, String line) throws ReflectiveOperationException {
        Matcher call = CALL.matcher(line);
        if (!call.matches()) {
            due(line, "no call with its answer", "a call with its answer");
            return;
        }
        due(line, answer(x, call.group(1), call.group(2)), due(call.group(3)));
    }

    private static String answer(ScriptStack x, String name, String list) throws ReflectiveOperationException {
        String[] texts = list.isEmpty() ? new String[0] : list.split(", ");
        Class<?>[] types = new Class<?>[texts.length];
        Object[] values = new Object[texts.length];
        for (int i = 0; i < texts.length; i++) {
            types[i] = int.class;
            values[i] = Long.decode(texts[i]).intValue();
        }
        Method method = ScriptStack.class.getMethod(name, types);
        return String.valueOf(method.invoke(x, values));
    }

    private static String due(String told) {
        switch (told) {
            case "REFUSED":
                return String.valueOf(ScriptStack.REFUSED);
            case "NONE":
                return String.valueOf(ScriptStack.NONE);
            case "FULL":
                return String.valueOf(ScriptStack.FULL);
            default:
                return told;
        }
    }
}
