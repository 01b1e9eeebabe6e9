import java.io.IOException;
import java.lang.reflect.Method;
import java.lang.reflect.Modifier;
import java.nio.file.Files;
import java.nio.file.Path;
import java.util.Map;
import java.util.TreeMap;
import java.util.regex.Matcher;
import java.util.regex.Pattern;

/** README.md tells the class as it is: the example's answers are the true ones, the tables have every call. */
public final class ReadmeTest {
    private static final Pattern MADE = Pattern.compile("new PriorityCore\\((\\d+), (\\d+), (\\d+)\\);");
    private static final Pattern CALL = Pattern.compile("(?m)^core\\.(\\w+)\\((.*?)\\); +// (-?\\d+)");
    private static final Pattern CALL_ROW = Pattern.compile("(?m)^\\| `(\\w+)\\(([\\w, ]*)\\)` \\|");
    private static final Pattern THROWS_ROW = Pattern.compile("(?m)^\\| `([a-z]+)` \\| (.*) \\|$");
    private static final Pattern THROWN = Pattern.compile("(\\w+): ");

    private static final Runs RUNS = new Runs();

    public static void main(String[] args) throws IOException {
        String readme = Files.readString(Path.of("README.md"));
        example(readme);
        calls(readme);
        exceptions(readme);
        RUNS.finish();
    }

    private static void example(String readme) {
        Matcher made = MADE.matcher(readme);
        RUNS.due("the example makes a core", "" + made.find(), "true");
        StringBuilder calls = new StringBuilder();
        Matcher call = CALL.matcher(readme);
        long many = 0;
        while (call.find()) {
            calls.append(call.group(1) + " " + call.group(2).replace(",", "") + " = " + call.group(3) + "\n");
            many++;
        }
        long lines = readme.lines().filter(line -> line.startsWith("core.")).count();
        RUNS.due("lines of the example that tell an answer", "" + many, "" + lines);
        RUNS.run("the example", number(made, 1), number(made, 2), number(made, 3), calls.toString());
    }

    private static int number(Matcher found, int group) {
        return Integer.parseInt(found.group(group));
    }

    private static void calls(String readme) {
        Map<String, String> rows = new TreeMap<>();
        Matcher row = CALL_ROW.matcher(readme);
        while (row.find()) {
            int many = row.group(2).isEmpty() ? 0 : row.group(2).split(", ").length;
            rows.put(row.group(1), many + " numbers");
        }
        Map<String, String> face = new TreeMap<>();
        for (Method method : PriorityCore.class.getDeclaredMethods()) {
            if (Modifier.isPublic(method.getModifiers())) {
                face.put(method.getName(), method.getParameterCount() + " numbers");
            }
        }
        RUNS.due("the table of calls", rows.toString(), face.toString());
    }

    private static void exceptions(String readme) {
        Map<String, String> rows = new TreeMap<>();
        Matcher row = THROWS_ROW.matcher(readme);
        while (row.find()) {
            StringBuilder names = new StringBuilder();
            Matcher thrown = THROWN.matcher(row.group(2));
            while (thrown.find()) {
                names.append(thrown.group(1)).append(' ');
            }
            rows.put(row.group(1), names.toString());
        }
        Map<String, String> face = new TreeMap<>();
        for (Method method : PriorityCore.class.getDeclaredMethods()) {
            StringBuilder names = new StringBuilder();
            for (Class<?> thrown : method.getExceptionTypes()) {
                names.append(thrown.getSimpleName().replace("Exception", "")).append(' ');
            }
            if (Modifier.isPublic(method.getModifiers()) && names.length() > 0) {
                face.put(method.getName(), names.toString());
            }
        }
        RUNS.due("the table of what they throw", rows.toString(), face.toString());
    }
}
