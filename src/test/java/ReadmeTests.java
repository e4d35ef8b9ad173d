import java.io.IOException;
import java.lang.reflect.Method;
import java.nio.file.Files;
import java.nio.file.Path;
import java.util.regex.Matcher;
import java.util.regex.Pattern;

/** The example in README.md: every call there answers what its comment begins with. */
public final class ReadmeTests {
    private static final Pattern CALL = Pattern.compile("x\\.(\\w+)\\((.*)\\); +// ([-A-Z_0-9]+)[^A-Za-z0-9_-]?.*");
    private static final int LEAST_CALLS = 25;

    private ReadmeTests() {
    }

    public static void main(String[] args) throws IOException, ReflectiveOperationException {
        ParametricFlow x = new ParametricFlow();
        int calls = 0;
        for (String line : Files.readAllLines(Path.of("README.md"))) {
            if (line.startsWith("x.")) {
                Matcher m = CALL.matcher(line);
                Due.holds("a call and its answer: " + line, m.matches());
                Due.is(line, call(x, m.group(1), arguments(m.group(2))), due(m.group(3)));
                calls++;
            }
        }
        Due.holds(calls + " calls", calls >= LEAST_CALLS);
        Due.end("ReadmeTests");
    }

    private static String[] arguments(String text) {
        return text.isEmpty() ? new String[0] : text.split(", *");
    }

    private static long call(ParametricFlow x, String name, String[] arguments) throws ReflectiveOperationException {
        for (Method m : ParametricFlow.class.getMethods()) {
            if (m.getName().equals(name) && m.getParameterCount() == arguments.length) {
                Object[] values = new Object[arguments.length];
                for (int k = 0; k < values.length; k++) {
                    boolean flag = m.getParameterTypes()[k] == boolean.class;
                    values[k] = flag ? (Object) Boolean.valueOf(arguments[k]) : Integer.valueOf(arguments[k]);
                }
                return ((Number) m.invoke(x, values)).longValue();
            }
        }
        throw new NoSuchMethodException(name);
    }

    private static long due(String answer) throws ReflectiveOperationException {
        if (Character.isUpperCase(answer.charAt(0))) {
            return ((Number) ParametricFlow.class.getField(answer).get(null)).longValue();
        }
        return Long.parseLong(answer);
    }
}
