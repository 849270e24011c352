import java.io.IOException;
import java.lang.reflect.Method;
import java.nio.file.Files;
import java.nio.file.Path;
import java.util.regex.Matcher;
import java.util.regex.Pattern;

/** README.md: its example answers as it says, and its tables tell every call and every constant. */
public final class ReadmeTest {
    private static final Check check = new Check();

    public static void main(String[] args) throws Exception {
        String readme = Files.readString(Path.of("README.md"));
        example(readme);
        everyCall(readme);
        everyTest(readme);
        check.end();
    }

    private static String between(String text, String ahead, String behind) {
        int from = text.indexOf(ahead) + ahead.length();
        return text.substring(from, text.indexOf(behind, from));
    }

    private static void example(String readme) throws ReflectiveOperationException {
        check.sentence("these calls answer the number behind //");
        TrialGarden garden = new TrialGarden();
        Check.onTape(garden, between(readme, "```text\n", "```"));
        Matcher line = Pattern.compile("(?m)^garden\\.(\\w+)\\(([^)]*)\\); *// (-?\\d+)").matcher(readme);
        while (line.find()) {
            check.is(line.group(), answer(garden, line.group(1), line.group(2)), Long.parseLong(line.group(3)));
        }
    }

    private static long answer(TrialGarden garden, String name, String told) throws ReflectiveOperationException {
        String[] numbers = told.isEmpty() ? new String[0] : told.split(", ");
        Object[] arguments = new Object[numbers.length];
        Class<?>[] types = new Class<?>[numbers.length];
        for (int i = 0; i < numbers.length; i++) {
            arguments[i] = Integer.parseInt(numbers[i]);
            types[i] = int.class;
        }
        return ((Number) TrialGarden.class.getMethod(name, types).invoke(garden, arguments)).longValue();
    }

    private static void everyCall(String readme) {
        check.sentence("What each call answers, and what is refused");
        String tables = between(readme, "### What each call answers", "## How it is built");
        for (Method method : TrialGarden.class.getMethods()) {
            if (method.getDeclaringClass() == TrialGarden.class) {
                String call = "(?m)^\\|.*`" + method.getName() + "\\((\\w+(, \\w+){" + (method.getParameterCount() - 1) + "})\\)`.*\\|.*\\|.*\\|$";
                String plain = "(?m)^\\|.*`" + method.getName() + "\\(\\)`.*\\|.*\\|.*\\|$";
                Pattern row = Pattern.compile(method.getParameterCount() == 0 ? plain : call);
                check.is("a row of " + method.getName(), row.matcher(tables).find() ? 1 : 0, 1);
            }
        }
        for (String constant : new String[] {"| `NONE` | -1 |", "| `RANGE` | -2 |", "| `FULL` | -3 |"}) {
            check.is("a row of " + constant, readme.contains(constant) ? 1 : 0, 1);
        }
    }

    private static void everyTest(String readme) throws IOException {
        check.sentence("How to run the tests: the one command, and what it runs");
        check.is("the command", readme.contains("```sh\n.ci/run\n```") ? 1 : 0, 1);
        try (var files = Files.list(Path.of("src/test/java"))) {
            for (Object file : files.toArray()) {
                String name = Path.of(file.toString()).getFileName().toString().replace(".java", "");
                boolean listed = !name.endsWith("Test") || readme.contains("| `" + name + "` |");
                check.is(name + " is told of", listed ? 1 : 0, 1);
            }
        }
    }
}
