import java.io.IOException;
import java.lang.reflect.Field;
import java.lang.reflect.Method;
import java.lang.reflect.Modifier;
import java.nio.file.Files;
import java.nio.file.Path;
import java.util.regex.Matcher;
import java.util.regex.Pattern;

/** README.md: its example and its program answer what they say, and it tells every constant and every call. */
public final class ReadmeTest {
    private static final Checks checks = new Checks("ReadmeTest");

    public static void main(String[] args) throws IOException, IllegalAccessException {
        String page = Files.readString(Path.of("README.md"));
        example(page);
        program(page);
        constants(page);
        calls(page);
        tests(page);
        checks.end();
    }

    private static void example(String page) {
        PeatShares parish = new PeatShares();
        Matcher line = Pattern.compile("(?m)^parish\\.(\\w+\\([\\d, ]*\\)); +// (-?\\d+):").matcher(page);
        int lines = 0;
        while (line.find()) {
            checks.due(line.group(1), Calls.call(parish, line.group(1).replace(" ", "")), Integer.parseInt(line.group(2)));
            lines++;
        }
        Matcher told = Pattern.compile("(?m)^parish\\.").matcher(page);
        checks.due("lines of the example that tell an answer", lines, told.results().count());
        checks.due("the example is there", lines > 0 ? 1 : 0, 1);
    }

    private static void program(String page) {
        Matcher text = Pattern.compile("String text = \"([^\"]*)\"").matcher(page);
        Matcher answer = Pattern.compile("On a new object this answers (\\d+)").matcher(page);
        boolean isTold = text.find() && answer.find();
        checks.due("the program and its answer are there", isTold ? 1 : 0, 1);
        if (isTold) {
            PeatShares parish = new PeatShares();
            checks.due(text.group(1), Checks.program(parish, text.group(1)), Integer.parseInt(answer.group(1)));
            checks.due("the length of the text then", parish.count(9), 0);
        }
    }

    private static void constants(String page) throws IllegalAccessException {
        for (Field field : PeatShares.class.getFields()) {
            String row = "| `PeatShares." + field.getName() + "` | " + field.getInt(null) + " |";
            checks.due("the row " + row, page.contains(row) ? 1 : 0, 1);
        }
    }

    private static void calls(String page) {
        for (Method method : PeatShares.class.getDeclaredMethods()) {
            if (Modifier.isPublic(method.getModifiers())) {
                Matcher row = Pattern.compile("(?m)^\\| `" + method.getName() + "\\(([^)]*)\\)` (\\* )?\\|").matcher(page);
                boolean isTold = row.find();
                checks.due("a row for " + method.getName(), isTold ? 1 : 0, 1);
                int told = !isTold || row.group(1).isEmpty() ? 0 : row.group(1).split(", ").length;
                checks.due("arguments told for " + method.getName(), told, method.getParameterCount());
            }
        }
    }

    private static void tests(String page) throws IOException {
        try (var files = Files.list(Path.of("src/test/java"))) {
            for (Path file : files.toList()) {
                String name = file.getFileName().toString().replace(".java", "");
                if (name.endsWith("Test")) {
                    checks.due("a row for " + name, page.contains("| `" + name + "` |") ? 1 : 0, 1);
                }
            }
        }
    }
}
