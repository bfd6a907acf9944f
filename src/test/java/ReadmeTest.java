import java.io.IOException;
import java.lang.reflect.InvocationTargetException;
import java.lang.reflect.Method;
import java.nio.file.Files;
import java.nio.file.Path;
import java.util.ArrayList;
import java.util.List;
import java.util.regex.Matcher;
import java.util.regex.Pattern;
import java.util.stream.Stream;

/** What README.md says of the class and of its tests must be so. Is called in the project's folder. */
public final class ReadmeTest {
    private static final Path README = Path.of("README.md");
    private static final Path TESTS = Path.of("src/test/java");
    // bench.call(arguments);   // answer, and whatever is told of it, or: throws SomeException
    private static final Pattern CALL = Pattern.compile("bench\\.(\\w+)\\((.*)\\);\\s+// (?:throws )?(-?\\w+).*");
    private static final Pattern REFUSAL = Pattern.compile("\\| (-\\d+) \\|.*");

    private static final Due due = new Due("ReadmeTest");

    public static void main(String[] args) throws Exception {
        List<String> lines = Files.readAllLines(README);
        callsAnswerWhatIsToldBehindThem(lines);
        eachRefusalIsTold(lines);
        eachTestIsNamed(String.join("\n", lines));
        due.end();
    }

    private static void callsAnswerWhatIsToldBehindThem(List<String> lines) throws Exception {
        WordBench bench = new WordBench();
        int calls = 0;
        for (String line : lines) {
            Matcher m = CALL.matcher(line);
            if (m.matches()) {
                calls++;
                due.same(line, answer(bench, m.group(1), m.group(2).split(", ")), m.group(3));
            } else if (line.startsWith("bench.")) {
                throw new IOException("no answer is told: " + line);
            }
        }
        due.is("there are calls", calls > 0 ? 1 : 0, 1);
    }

    private static String answer(WordBench bench, String name, String[] told) throws Exception {
        for (Method call : WordBench.class.getMethods()) {
            if (call.getName().equals(name) && call.getParameterCount() == told.length) {
                try {
                    return call.invoke(bench, values(call, told)).toString();
                } catch (InvocationTargetException thrown) {
                    return thrown.getCause().getClass().getSimpleName();
                }
            }
        }
        throw new IOException("no such call: " + name);
    }

    private static Object[] values(Method call, String[] told) {
        Object[] values = new Object[told.length];
        for (int k = 0; k < values.length; k++) {
            boolean isLong = call.getParameterTypes()[k] == long.class;
            values[k] = isLong ? (Object) Long.valueOf(told[k]) : (Object) Integer.valueOf(told[k]);
        }
        return values;
    }

    private static void eachRefusalIsTold(List<String> lines) {
        List<String> refusals = new ArrayList<>();
        for (String line : lines) {
            Matcher m = REFUSAL.matcher(line);
            if (m.matches()) {
                refusals.add(m.group(1));
            }
        }
        due.same("refusals", refusals.toString(), "[-1, -2, -3, -4, -5, -6, -11, -12, -13, -14, -15]");
    }

    private static void eachTestIsNamed(String page) throws IOException {
        try (Stream<Path> tests = Files.list(TESTS)) {
            for (Path test : tests.toList()) {
                String name = test.getFileName().toString().replace(".java", "");
                if (name.endsWith("Test")) {
                    due.is(name + " is named", page.contains("`" + name + "`") ? 1 : 0, 1);
                }
            }
        }
    }
}
