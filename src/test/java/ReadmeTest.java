import java.io.IOException;
import java.lang.reflect.Field;
import java.lang.reflect.Method;
import java.lang.reflect.Modifier;
import java.nio.file.Files;
import java.nio.file.Path;
import java.util.regex.Matcher;
import java.util.regex.Pattern;

/** README.md names the whole face, and the calls that it shows answer what it says. */
public final class ReadmeTest {
    private static final Pattern EXAMPLE = Pattern.compile("(?s)```java\n(.*?)```");
    private static final Pattern CALL = Pattern.compile("(?m)^x\\.(\\w+)\\((.*?)\\); +// (-?\\d+)\\b.*$");
    private static final Checks checks = new Checks();

    public static void main(String[] args) throws Exception {
        String readme = read();
        names(readme);
        Matcher example = EXAMPLE.matcher(readme);
        checks.holds("README.md has an example", example.find());
        calls(example.group(1));
        checks.end("ReadmeTest");
    }

    private static String read() throws IOException {
        return Files.readString(Path.of("README.md"));
    }

    private static void names(String readme) {
        for (Method method : CaseExecutor.class.getDeclaredMethods()) {
            if (Modifier.isPublic(method.getModifiers())) {
                checks.holds("README.md tells of " + method, readme.contains("| `" + method.getName() + "("));
            }
        }
        for (Field field : CaseExecutor.class.getFields()) {
            checks.holds("README.md tells of " + field, readme.contains("`" + field.getName() + "`"));
        }
        checks.holds("README.md tells how to run the tests", readme.contains("    .ci/run\n"));
    }

    private static void calls(String example) throws ReflectiveOperationException {
        CaseExecutor x = new CaseExecutor();
        checks.holds("the example makes an object", example.startsWith("CaseExecutor x = new CaseExecutor();\n"));
        Matcher call = CALL.matcher(example);
        int calls = 0;
        while (call.find()) {
            calls++;
            checks.due(call.group(), answer(x, call.group(1), call.group(2)), Long.parseLong(call.group(3)));
        }
        checks.due("lines of the example that are calls with an answer", calls, example.lines().count() - 1);
    }

    private static long answer(CaseExecutor x, String name, String arguments) throws ReflectiveOperationException {
        String[] texts = arguments.isEmpty() ? new String[0] : arguments.split(", ");
        for (Method method : CaseExecutor.class.getMethods()) {
            if (method.getName().equals(name) && method.getParameterCount() == texts.length) {
                return ((Number) method.invoke(x, values(method, texts))).longValue();
            }
        }
        throw new NoSuchMethodException(name);
    }

    private static Object[] values(Method method, String[] texts) {
        Object[] values = new Object[texts.length];
        for (int i = 0; i < texts.length; i++) {
            boolean isMark = method.getParameterTypes()[i] == boolean.class;
            values[i] = isMark ? (Object) Boolean.valueOf(texts[i]) : (Object) Integer.valueOf(texts[i]);
        }
        return values;
    }
}
