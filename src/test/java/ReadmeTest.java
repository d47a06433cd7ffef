import java.io.IOException;
import java.lang.reflect.Method;
import java.nio.file.Files;
import java.nio.file.Path;
import java.util.Arrays;
import java.util.List;
import java.util.regex.Matcher;
import java.util.regex.Pattern;

/** The calls that README.md shows answer what it says behind them. */
public final class ReadmeTest {
    private static final Pattern MADE = Pattern.compile("CollectedGroup x = new CollectedGroup\\(0x(\\w+)\\);.*");
    private static final Pattern CALL = Pattern.compile("x\\.(\\w+)\\(([-\\d, ]*)\\); *// (\\w+).*");

    public static void main(String[] args) throws IOException, ReflectiveOperationException {
        List<String> lines = Files.readAllLines(Path.of(System.getProperty("project"), "README.md"));
        CollectedGroup x = null;
        int calls = 0;
        for (String line : lines) {
            Matcher made = MADE.matcher(line);
            if (made.matches()) {
                x = new CollectedGroup(Integer.parseInt(made.group(1), 16));
            }
            Matcher call = CALL.matcher(line);
            if (call.matches()) {
                Check.due(line, answer(x, call.group(1), call.group(2)), call.group(3));
                calls++;
            }
        }
        Check.due("README.md shows calls", calls > 10, true);
        Check.end();
    }

    private static String answer(CollectedGroup x, String name, String written) throws ReflectiveOperationException {
        String[] parts = written.isEmpty() ? new String[0] : written.split(", *");
        Class<?>[] types = new Class<?>[parts.length];
        Arrays.fill(types, int.class);
        Object[] values = new Object[parts.length];
        for (int k = 0; k < parts.length; k++) {
            values[k] = Integer.valueOf(parts[k]);
        }
        Method method = CollectedGroup.class.getMethod(name, types);
        String answer = String.valueOf(method.invoke(x, values));
        return answer.equals(String.valueOf(CollectedGroup.NONE)) ? "NONE" : answer;
    }
}
