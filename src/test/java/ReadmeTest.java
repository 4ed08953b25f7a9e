import java.io.IOException;
import java.lang.reflect.InvocationTargetException;
import java.lang.reflect.Method;
import java.nio.file.Files;
import java.nio.file.Path;
import java.util.Set;
import java.util.TreeSet;
import java.util.regex.Matcher;
import java.util.regex.Pattern;

/** README.md: the calls of its example answer what it says behind them, and its table names every call. */
public final class ReadmeTest {
    private static final Pattern CALL = Pattern.compile("x\\.(\\w+)\\((.*?)\\);\\s+// (-?\\d+)\\b.*");
    private static final Pattern NAME = Pattern.compile("`(\\w+)`");

    public static void main(String[] args) throws IOException, ReflectiveOperationException {
        String[] lines = Files.readString(Path.of("README.md")).split("\n");
        example(lines);
        table(lines);
        Check.end();
    }

    private static void example(String[] lines) throws ReflectiveOperationException {
        TimingLights x = new TimingLights();
        int calls = 0;
        for (String line : lines) {
            if (line.startsWith("x.")) {
                Matcher call = CALL.matcher(line);
                boolean readable = call.matches();
                Check.due("a call and its answer: " + line, readable ? 1 : 0, 1);
                if (readable) {
                    Check.due(line, answer(x, call.group(1), call.group(2)), Integer.parseInt(call.group(3)));
                    calls++;
                }
            }
        }
        Check.due("README.md has calls", calls > 0 ? 1 : 0, 1);
    }

    private static int answer(TimingLights x, String name, String arguments)
            throws InvocationTargetException, IllegalAccessException {
        String[] texts = arguments.isEmpty() ? new String[0] : arguments.split(", ");
        Method method = methodOf(name);
        Object[] values = new Object[texts.length];
        for (int i = 0; i < texts.length; i++) {
            long value = Long.decode(texts[i].replace("L", ""));
            values[i] = method.getParameterTypes()[i] == long.class ? (Object) value : (Object) (int) value;
        }
        return (Integer) method.invoke(x, values);
    }

    private static Method methodOf(String name) {
        for (Method method : TimingLights.class.getMethods()) {
            if (method.getName().equals(name)) {
                return method;
            }
        }
        throw new IllegalArgumentException("README.md calls " + name);
    }

    private static void table(String[] lines) {
        Set<String> told = new TreeSet<>();
        for (String line : lines) {
            if (line.startsWith("| `")) {
                Matcher name = NAME.matcher(line.substring(0, line.indexOf('|', 1)));
                while (name.find()) {
                    told.add(name.group(1));
                }
            }
        }
        for (Method method : TimingLights.class.getMethods()) {
            if (method.getDeclaringClass() == TimingLights.class) {
                Check.due("README.md names " + method.getName(), told.contains(method.getName()) ? 1 : 0, 1);
            }
        }
    }
}
