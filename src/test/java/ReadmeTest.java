import java.io.IOException;
import java.lang.reflect.Field;
import java.lang.reflect.Method;
import java.lang.reflect.Modifier;
import java.nio.file.Files;
import java.nio.file.Path;
import java.util.Arrays;
import java.util.List;
import java.util.Set;
import java.util.TreeSet;
import java.util.regex.Matcher;
import java.util.regex.Pattern;

/** The examples of README.md answer as it says, and it names every call and constant; it is run in the project's folder. */
public final class ReadmeTest {
    private static final Pattern MADE = Pattern.compile("(?:ShapeFrames )?x = new ShapeFrames\\(\\);");
    private static final Pattern TOLD = Pattern.compile("tell\\(x, \"([^\"]*)\"\\);");
    private static final Pattern CALLED = Pattern.compile("x\\.(\\w+)\\(([-0-9, ]*)\\); +// (-?[0-9]+)(?: \\((\\w+)\\))?(?:: .*)?");
    private static final Check check = new Check("ReadmeTest");
    private static final Set<String> called = new TreeSet<>();
    private static ShapeFrames x = new ShapeFrames();

    public static void main(String[] args) throws IOException, ReflectiveOperationException {
        List<String> lines = Files.readAllLines(Path.of("README.md"));
        boolean inExample = false;
        for (int i = 0; i < lines.size(); i++) {
            if (lines.get(i).equals("```java")) {
                // The one method that the examples use is Check.write() here.
                inExample = !lines.get(i + 1).startsWith("static ");
            } else if (lines.get(i).equals("```")) {
                inExample = false;
            } else if (inExample) {
                example(lines.get(i));
            }
        }
        namesAllCalls(lines);
        namesAllConstants(lines);
        namesAllTests(lines);
        check.end();
    }

    private static void example(String line) throws ReflectiveOperationException {
        Matcher told = TOLD.matcher(line);
        Matcher call = CALLED.matcher(line);
        if (MADE.matcher(line).matches()) {
            x = new ShapeFrames();
        } else if (told.matches()) {
            Check.write(x, told.group(1));
        } else {
            check.due("an example can be read: " + line, call.matches() ? 1 : 0, 1);
            if (call.matches()) {
                answers(line, call);
            }
        }
    }

    private static void answers(String line, Matcher call) throws ReflectiveOperationException {
        String[] numbers = call.group(2).isEmpty() ? new String[0] : call.group(2).split(", ");
        Class<?>[] types = new Class<?>[numbers.length];
        Arrays.fill(types, int.class);
        Object[] arguments = new Object[numbers.length];
        for (int i = 0; i < numbers.length; i++) {
            arguments[i] = Integer.valueOf(numbers[i]);
        }
        Method method = ShapeFrames.class.getMethod(call.group(1), types);
        int want = Integer.parseInt(call.group(3));
        check.due(line, (int) method.invoke(x, arguments), want);
        if (call.group(4) != null) {
            check.due(line, ShapeFrames.class.getField(call.group(4)).getInt(null), want);
        }
        called.add(call.group(1));
    }

    private static boolean hasRow(List<String> lines, String start) {
        return lines.stream().anyMatch(line -> line.startsWith(start));
    }

    /** In the table of all calls, and (but for write, which all texts are told by) in an example. */
    private static void namesAllCalls(List<String> lines) {
        for (Method method : ShapeFrames.class.getDeclaredMethods()) {
            if (Modifier.isPublic(method.getModifiers())) {
                String name = method.getName();
                int commas = Math.max(0, method.getParameterCount() - 1);
                String parameters = method.getParameterCount() == 0 ? "" : "\\w+(, \\w+){" + commas + "}";
                Pattern row = Pattern.compile("\\| `" + name + "\\(" + parameters + "\\)` \\| .*");
                check.due(name + " is in the table", lines.stream().anyMatch(line -> row.matcher(line).matches()) ? 1 : 0, 1);
                check.due(name + " is in an example", called.contains(name) || name.equals("write") ? 1 : 0, 1);
            }
        }
    }

    private static void namesAllConstants(List<String> lines) throws IllegalAccessException {
        for (Field field : ShapeFrames.class.getFields()) {
            String name = field.getName();
            boolean inTable = hasRow(lines, "| `" + name + "` | " + field.getInt(null) + " |");
            boolean inWords = hasRow(lines, "`" + name + "` (" + field.getInt(null) + ")");
            check.due(name + " is told with its number", inTable || inWords ? 1 : 0, 1);
        }
    }

    private static void namesAllTests(List<String> lines) throws IOException {
        try (var files = Files.list(Path.of("src/test/java"))) {
            for (Path file : (Iterable<Path>) files::iterator) {
                String name = file.getFileName().toString().replace(".java", "");
                if (name.endsWith("Test")) {
                    check.due(name + " is in the table", hasRow(lines, "| `" + name + "` |") ? 1 : 0, 1);
                }
            }
        }
    }
}
