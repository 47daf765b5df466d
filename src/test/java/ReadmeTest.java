import java.io.IOException;
import java.lang.reflect.InvocationTargetException;
import java.lang.reflect.Method;
import java.lang.reflect.Modifier;
import java.nio.file.Files;
import java.nio.file.Path;
import java.util.Arrays;
import java.util.List;
import java.util.regex.Matcher;
import java.util.regex.Pattern;

/** What README.md says of answers is so when it is tried; it is run from the folder of README.md. */
public final class ReadmeTest {
    private static final String FIRST = "ChicoryRoasters town = new ChicoryRoasters();";
    private static final Pattern CALL = Pattern.compile("town\\.(\\w+)\\(([-\\d, ]*)\\); +// (?:throws )?([^ :]+): .+");
    private static final Pattern ROW = Pattern.compile("\\| `(\\w+)\\(([\\w, ]*)\\)` \\|.+");

    private ReadmeTest() {
    }

    public static void main(String[] args) throws IOException, IllegalAccessException {
        List<String> lines = Files.readAllLines(Path.of("README.md"));
        examplesAnswerAsTold(lines);
        everyCallHasItsRow(lines);
        everyTestHasItsRow(lines);
        Check.finish("ReadmeTest");
    }

    private static void examplesAnswerAsTold(List<String> lines) throws IllegalAccessException {
        int start = lines.indexOf("```java") + 1;
        Check.verdict(start > 0 && lines.get(start).equals(FIRST), "the example starts with a new town");
        ChicoryRoasters town = new ChicoryRoasters();
        int tried = 0;
        for (int at = start + 1; at < lines.size() && !lines.get(at).equals("```"); at++) {
            Matcher call = CALL.matcher(lines.get(at));
            boolean told = call.matches();
            Check.verdict(told, "not a call with its answer: " + lines.get(at));
            if (told) {
                String got = answer(town, call.group(1), numbers(call.group(2)));
                Check.verdict(got.equals(call.group(3)), lines.get(at) + " answered " + got);
                tried++;
            }
        }
        Check.verdict(tried > 0, "the example has calls");
    }

    private static Object[] numbers(String written) {
        return written.isEmpty() ? new Object[0] : Arrays.stream(written.split(", ")).map(Integer::valueOf).toArray();
    }

    /** The answer as a text, or the name of the exception. */
    private static String answer(ChicoryRoasters town, String name, Object[] numbers) throws IllegalAccessException {
        for (Method method : ChicoryRoasters.class.getDeclaredMethods()) {
            if (method.getName().equals(name) && method.getParameterCount() == numbers.length) {
                try {
                    return String.valueOf(method.invoke(town, numbers));
                } catch (InvocationTargetException e) {
                    return e.getCause().getClass().getSimpleName();
                }
            }
        }
        return "no such call";
    }

    private static void everyCallHasItsRow(List<String> lines) {
        for (Method method : ChicoryRoasters.class.getDeclaredMethods()) {
            if (Modifier.isPublic(method.getModifiers())) {
                Check.due("rows for " + method.getName(), rowsFor(lines, method), 1);
            }
        }
    }

    private static int rowsFor(List<String> lines, Method method) {
        int rows = 0;
        for (String line : lines) {
            Matcher row = ROW.matcher(line);
            if (row.matches() && row.group(1).equals(method.getName())) {
                String parameters = row.group(2);
                int count = parameters.isEmpty() ? 0 : parameters.split(", ").length;
                Check.due("parameters told of " + method.getName(), count, method.getParameterCount());
                rows++;
            }
        }
        return rows;
    }

    private static void everyTestHasItsRow(List<String> lines) throws IOException {
        try (var files = Files.list(Path.of("src/test/java"))) {
            for (String file : files.map(path -> path.getFileName().toString()).sorted().toList()) {
                if (file.endsWith("Test.java")) {
                    String name = "| `" + file.substring(0, file.length() - ".java".length()) + "` | ";
                    Check.verdict(lines.stream().anyMatch(line -> line.startsWith(name)), "no row for " + file);
                }
            }
        }
    }
}
