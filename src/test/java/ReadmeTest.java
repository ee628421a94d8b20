import java.io.IOException;
import java.lang.reflect.Method;
import java.lang.reflect.Modifier;
import java.nio.file.Files;
import java.nio.file.Path;
import java.util.Arrays;
import java.util.regex.Matcher;
import java.util.regex.Pattern;

/** The example of README.md: each of its calls answers what stands behind it, and each method has its place there. */
public final class ReadmeTest {
    private static final Pattern CALL = Pattern.compile("(?m)^gates\\.(\\w+)\\((.*)\\); +// (-?\\d+):");

    public static void main(String[] args) throws IOException, ReflectiveOperationException {
        String text = Files.readString(Path.of("README.md"));
        example(text);
        for (Method method : ScoutGates.class.getDeclaredMethods()) {
            boolean isFace = Modifier.isPublic(method.getModifiers());
            Due.holds(method.getName() + " is told", !isFace || text.contains("`" + method.getName() + "`"));
        }
        Due.end();
    }

    private static void example(String text) throws ReflectiveOperationException {
        long lines = text.lines().filter(line -> line.startsWith("gates.")).count();
        ScoutGates gates = new ScoutGates();
        Matcher call = CALL.matcher(text);
        int calls = 0;
        while (call.find()) {
            calls++;
            Due.is(call.group(), answer(gates, call.group(1), call.group(2)), Long.parseLong(call.group(3)));
        }
        Due.is("lines of the example that are read", calls, lines);
        Due.holds("there is an example", calls > 0);
    }

    private static int answer(ScoutGates gates, String name, String arguments) throws ReflectiveOperationException {
        Method method = Arrays.stream(ScoutGates.class.getMethods())
            .filter(one -> one.getName().equals(name)).findAny().orElseThrow();
        Class<?>[] types = method.getParameterTypes();
        Object[] values = new Object[types.length];
        String[] words = arguments.isEmpty() ? new String[0] : arguments.split(", ");
        Due.is("arguments of " + name, words.length, values.length);
        for (int i = 0; i < values.length; i++) {
            long value = Long.decode(words[i].replace("L", ""));
            values[i] = types[i] == long.class ? (Object) value : (Object) (int) value;
        }
        return (int) method.invoke(gates, values);
    }
}
