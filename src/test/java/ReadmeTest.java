import java.io.IOException;
import java.lang.reflect.Method;
import java.nio.file.Files;
import java.nio.file.Path;
import java.util.regex.Matcher;
import java.util.regex.Pattern;

/** Makes the calls that README.md shows, which must answer what stands behind them. */
public final class ReadmeTest {
    private static final Pattern FEED = Pattern.compile("feed\\(house, \"(.*)\"\\);");
    private static final Pattern CALL = Pattern.compile("house\\.(\\w+)\\((.*)\\); +// (-?\\d+).*");

    public static void main(String[] args) throws IOException, ReflectiveOperationException {
        Checks checks = new Checks();
        SolverHouse house = new SolverHouse();
        int calls = 0;
        for (String line : Files.readAllLines(Path.of("README.md"))) {
            Matcher feed = FEED.matcher(line);
            Matcher call = CALL.matcher(line);
            if (feed.matches()) {
                Checks.feed(house, feed.group(1));
            } else if (call.matches()) {
                checks.due(line, answer(house, call.group(1), call.group(2)), Integer.parseInt(call.group(3)));
                calls++;
            }
        }
        checks.due("calls are enough", calls > 30 ? 1 : 0, 1);
        checks.end();
    }

    private static int answer(SolverHouse house, String name, String list) throws ReflectiveOperationException {
        String[] words = list.isEmpty() ? new String[0] : list.split(", ");
        for (Method method : SolverHouse.class.getDeclaredMethods()) {
            if (method.getName().equals(name) && method.getParameterCount() == words.length) {
                Object[] arguments = new Object[words.length];
                for (int i = 0; i < words.length; i++) {
                    boolean truth = method.getParameterTypes()[i] == boolean.class;
                    arguments[i] = truth ? (Object) Boolean.valueOf(words[i]) : (Object) Integer.valueOf(words[i]);
                }
                return (Integer) method.invoke(house, arguments);
            }
        }
        throw new NoSuchMethodException(name);
    }
}
