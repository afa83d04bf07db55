import java.io.IOException;
import java.lang.reflect.Method;
import java.lang.reflect.Modifier;
import java.nio.file.Files;
import java.nio.file.Path;
import java.util.Arrays;
import java.util.TreeSet;
import java.util.regex.Matcher;
import java.util.regex.Pattern;

/** The calls that README.md shows, from its first one on, answer what stands behind them; each call is among them. */
public final class ReadmeTest {
    private static final Pattern SHOWN = Pattern.compile("x\\.(\\w+)\\(([^)]*)\\);\\s*// (-?\\d+).*");

    private static final Checks CHECKS = new Checks();

    private final GraphTwins twins = new GraphTwins();
    private final TreeSet<String> shown = new TreeSet<>();

    public static void main(String[] args) throws IOException, ReflectiveOperationException {
        ReadmeTest test = new ReadmeTest();
        for (String line : Files.readAllLines(Path.of("README.md"))) {
            if (line.startsWith("x.")) {
                test.tryLine(line);
            }
        }
        test.dueAllShown();
        CHECKS.end();
    }

    private void tryLine(String line) throws ReflectiveOperationException {
        Matcher call = SHOWN.matcher(line);
        if (!call.matches()) {
            CHECKS.fail("README.md shows no answer: " + line);
            return;
        }
        Object[] inputs = Arrays.stream(call.group(2).split(", ")).filter(input -> !input.isEmpty())
            .map(Integer::valueOf).toArray();
        Class<?>[] types = new Class<?>[inputs.length];
        Arrays.fill(types, int.class);
        Object got = GraphTwins.class.getMethod(call.group(1), types).invoke(twins, inputs);
        CHECKS.due(line, got, Integer.valueOf(call.group(3)));
        shown.add(call.group(1));
    }

    private void dueAllShown() {
        for (Method method : GraphTwins.class.getDeclaredMethods()) {
            boolean isOfFace = Modifier.isPublic(method.getModifiers());
            if (isOfFace && !shown.contains(method.getName())) {
                CHECKS.fail("README.md does not show " + method.getName());
            }
        }
    }
}
