import java.io.IOException;
import java.lang.reflect.InvocationTargetException;
import java.lang.reflect.Method;
import java.lang.reflect.Modifier;
import java.nio.file.Files;
import java.nio.file.Path;
import java.util.ArrayList;
import java.util.List;
import java.util.regex.Matcher;
import java.util.regex.Pattern;
import java.util.stream.Stream;

/** README.md: its example is done call by call, and it names every call and every test. */
public final class ReadmeTest {
    private static final Pattern CALL =
            Pattern.compile("machine\\.(\\w+)\\(([^)]*)\\);(?: *// (-?\\d+))?");

    private ReadmeTest() {
    }

    public static void main(String[] args) throws IOException, ReflectiveOperationException {
        String readme = Files.readString(Path.of("README.md"));
        Check.due("answers that the example tells", doExample(readme) > 0, true);
        for (Method method : TwinIssue.class.getDeclaredMethods()) {
            if (Modifier.isPublic(method.getModifiers())) {
                Check.due("names " + method.getName(), readme.contains(method.getName() + "("), true);
            }
        }
        for (String test : tests()) {
            Check.due("names " + test, readme.contains("`" + test + "`"), true);
        }
        Check.due("tells how to run them", readme.contains("\n    .ci/run\n"), true);
        Check.end("ReadmeTest");
    }

    private static int doExample(String readme) throws ReflectiveOperationException {
        int begin = readme.indexOf("```java\n");
        int end = readme.indexOf("```\n", begin + 8);
        Check.due("has an example", begin >= 0 && end > begin, true);
        TwinIssue machine = new TwinIssue(16);
        int told = 0;
        for (String line : readme.substring(begin + 8, end).split("\n")) {
            if (line.equals("TwinIssue machine = new TwinIssue(16);")) {
                continue;
            }
            Matcher call = CALL.matcher(line);
            Check.due("'" + line + "' is a call", call.matches(), true);
            long answer = call(machine, call.group(1), numbers(call.group(2)));
            if (call.group(3) != null) {
                Check.due(line, answer, Long.parseLong(call.group(3)));
                told++;
            }
        }
        return told;
    }

    private static long call(TwinIssue machine, String name, Object[] arguments)
            throws IllegalAccessException, InvocationTargetException {
        for (Method method : TwinIssue.class.getMethods()) {
            if (method.getName().equals(name) && method.getParameterCount() == arguments.length) {
                Object answer = method.invoke(machine, arguments);
                if (answer instanceof Boolean) {
                    Check.due(name + " is taken", (Boolean) answer, true);
                    return 1;
                }
                return answer == null ? 0 : (Integer) answer;
            }
        }
        Check.due("there is a call " + name, false, true);
        return 0;
    }

    /** Numbers with shifts and bits put together, as in 10 << 26 | 5. */
    private static Object[] numbers(String text) {
        List<Object> numbers = new ArrayList<>();
        for (String argument : text.isEmpty() ? new String[0] : text.split(", ")) {
            int number = 0;
            for (String part : argument.split(" \\| ")) {
                String[] shifted = part.split(" << ");
                int by = shifted.length > 1 ? Integer.parseInt(shifted[1]) : 0;
                number |= Integer.parseInt(shifted[0]) << by;
            }
            numbers.add(number);
        }
        return numbers.toArray();
    }

    private static List<String> tests() throws IOException {
        List<String> names = new ArrayList<>();
        try (Stream<Path> files = Files.list(Path.of("src/test/java"))) {
            files.map(file -> file.getFileName().toString())
                    .filter(name -> name.endsWith("Test.java"))
                    .forEach(name -> names.add(name.substring(0, name.length() - 5)));
        }
        return names;
    }
}
