import java.io.IOException;
import java.io.PrintWriter;
import java.io.StringWriter;
import java.lang.reflect.Constructor;
import java.lang.reflect.Field;
import java.lang.reflect.Method;
import java.lang.reflect.Modifier;
import java.nio.file.Files;
import java.nio.file.Path;
import java.util.ArrayList;
import java.util.List;
import java.util.Map;
import java.util.Optional;
import java.util.Set;
import java.util.TreeMap;
import java.util.TreeSet;
import java.util.regex.Matcher;
import java.util.regex.Pattern;
import java.util.spi.ToolProvider;
import java.util.stream.Stream;

/** The rules of LANGUAGE.md that can be seen in the source or by reflection; it is run in the project's folder. */
public final class LanguageTest {
    private static final Set<String> FACE = Set.of("write", "erase", "fault", "program", "node", "extent", "as", "give",
        "free", "undo", "keep", "back", "letter", "fails", "open", "ways", "way", "odds", "mend", "seen", "forget",
        "kinds", "ask", "row", "set", "get", "copy", "append", "load", "sum", "drop", "count");
    private static final Set<String> CONSTANTS = Set.of("NONE", "UNKNOWN", "OUTSIDE", "NOT", "FULL", "NULL", "SIZE",
        "CAST", "INDEX", "ROOM");
    private static final Pattern METHOD_START = Pattern.compile(
        "^(    |        )(public |private )?(static )?(\\w+(\\[\\])?) (\\w+)\\(([^)]*)\\) \\{$");
    private static final Check check = new Check("LanguageTest");

    public static void main(String[] args) throws IOException {
        List<String> lines = Files.readAllLines(Path.of("src/main/java/ShapeFrames.java"));
        rule1Face();
        rule1Names();
        rule2And11Classes();
        rule4Library(lines);
        rule6Words(lines);
        rule11Methods(lines);
        rule11Depth();
        rule12ObjectsAreMadeOnce(lines);
        check.end();
    }

    private static void rule1Face() {
        Set<String> methods = new TreeSet<>();
        for (Method method : ShapeFrames.class.getDeclaredMethods()) {
            if (!Modifier.isPrivate(method.getModifiers())) {
                methods.add(method.getName());
                check.due(method + " is public", Modifier.isPublic(method.getModifiers()) ? 1 : 0, 1);
                check.due(method + " answers an int", method.getReturnType() == int.class ? 1 : 0, 1);
            }
        }
        check.due("the face's methods: " + methods, methods.equals(FACE) ? 1 : 0, 1);
        Set<String> constants = new TreeSet<>();
        for (Field field : ShapeFrames.class.getDeclaredFields()) {
            if (!Modifier.isPrivate(field.getModifiers())) {
                constants.add(field.getName());
            }
        }
        check.due("the face's constants: " + constants, constants.equals(CONSTANTS) ? 1 : 0, 1);
        Constructor<?>[] constructors = ShapeFrames.class.getDeclaredConstructors();
        check.due("constructors", constructors.length, 1);
        check.due("the constructor is public", Modifier.isPublic(constructors[0].getModifiers()) ? 1 : 0, 1);
        check.due("the class is final", Modifier.isFinal(ShapeFrames.class.getModifiers()) ? 1 : 0, 1);
    }

    private static void rule1Names() {
        for (Method method : ShapeFrames.class.getDeclaredMethods()) {
            boolean shared = Modifier.isPrivate(method.getModifiers()) && FACE.contains(method.getName());
            check.due(method + " bears a public one's name", shared ? 1 : 0, 0);
        }
        for (Class<?> inside : ShapeFrames.class.getDeclaredClasses()) {
            for (Method method : inside.getDeclaredMethods()) {
                check.due(method + " bears a public one's name", FACE.contains(method.getName()) ? 1 : 0, 0);
            }
        }
    }

    private static void rule2And11Classes() {
        Class<?>[] inside = ShapeFrames.class.getDeclaredClasses();
        check.due("classes inside, twelve at most: " + inside.length, inside.length <= 11 ? 1 : 0, 1);
        checkFields(ShapeFrames.class);
        for (Class<?> one : inside) {
            check.due(one + " is static", Modifier.isStatic(one.getModifiers()) ? 1 : 0, 1);
            check.due(one + " is not public", Modifier.isPublic(one.getModifiers()) ? 1 : 0, 0);
            checkFields(one);
        }
    }

    private static void checkFields(Class<?> one) {
        int fields = 0;
        for (Field field : one.getDeclaredFields()) {
            if (Modifier.isStatic(field.getModifiers())) {
                check.due(field + " is final", Modifier.isFinal(field.getModifiers()) ? 1 : 0, 1);
            } else {
                fields++;
            }
        }
        check.due(one + " has twenty fields at most: " + fields, fields <= 20 ? 1 : 0, 1);
    }

    /** A line without what stands in comments and constants. */
    private static String code(String line) {
        String bare = line.replaceAll("\"[^\"]*\"", "\"\"").replaceAll("'[^']'", "' '").replaceAll("//.*", "");
        return bare.trim().startsWith("*") || bare.trim().startsWith("/**") ? "" : bare;
    }

    private static void rule4Library(List<String> lines) {
        Pattern calls = Pattern.compile("\\b(System|Arrays|Math|Integer|Long|String|StringBuilder|Character)\\.(\\w+)");
        Set<String> allowed = Set.of("System.arraycopy", "Arrays.fill", "Math.min", "Math.max", "Integer.bitCount");
        for (String line : lines) {
            Matcher matcher = calls.matcher(code(line));
            while (matcher.find()) {
                check.due("of the library: " + matcher.group(), allowed.contains(matcher.group()) ? 1 : 0, 1);
            }
            boolean other = line.startsWith("import") && !line.equals("import java.util.Arrays;");
            check.due("imported: " + line, other || line.startsWith("package") ? 1 : 0, 0);
            check.due("signs of 1 to 127: " + line, line.chars().allMatch(sign -> sign > 0 && sign < 128) ? 1 : 0, 1);
        }
    }

    private static void rule6Words(List<String> lines) {
        Pattern words = Pattern.compile("\\b(throw|throws|try|catch|finally|synchronized|assert|volatile|native|protected"
            + "|hashCode|equals|toString|instanceof|var|yield)\\b|->|::|@");
        for (String line : lines) {
            check.due("no such word: " + line, words.matcher(code(line)).find() ? 1 : 0, 0);
        }
    }

    private static void rule11Methods(List<String> lines) {
        int found = 0;
        for (int i = 0; i < lines.size(); i++) {
            Matcher matcher = METHOD_START.matcher(lines.get(i));
            if (!matcher.matches()) {
                continue;
            }
            found++;
            int end = lines.subList(i, lines.size()).indexOf(matcher.group(1) + "}");
            check.due(matcher.group(6) + " is of sixty lines at most: " + end, end > 0 && end <= 60 ? 1 : 0, 1);
            int parameters = matcher.group(7).isEmpty() ? 0 : matcher.group(7).split(",").length;
            check.due(matcher.group(6) + " takes seven at most: " + parameters, parameters <= 7 ? 1 : 0, 1);
        }
        check.due("methods that were looked at: " + found, found > 100 ? 1 : 0, 1);
    }

    /** By the compiled classes: which of their methods calls which; a call of itself is no deeper one. */
    private static Map<String, Set<String>> callsOfMethods(ToolProvider javap) throws IOException {
        String classes = ShapeFrames.class.getProtectionDomain().getCodeSource().getLocation().getPath();
        List<String> arguments = new ArrayList<>(List.of("-c", "-p"));
        try (Stream<Path> files = Files.list(Path.of(classes))) {
            files.filter(file -> file.getFileName().toString().matches("ShapeFrames(\\$.*)?\\.class"))
                .forEach(file -> arguments.add(file.toString()));
        }
        StringWriter told = new StringWriter();
        PrintWriter out = new PrintWriter(told);
        javap.run(out, out, arguments.toArray(new String[0]));
        Pattern call = Pattern.compile("// Method (?:(ShapeFrames[\\w$]*)\\.)?\"?(<init>|\\w+)\"?:");
        Map<String, Set<String>> calls = new TreeMap<>();
        String owner = "";
        String method = "";
        for (String line : told.toString().split("\n")) {
            Matcher start = Pattern.compile("^(?:\\w+ )*class (\\S+) \\{").matcher(line);
            Matcher body = Pattern.compile("^  (?:\\S+ )*([\\w$]+)\\(.*\\);$").matcher(line);
            Matcher called = call.matcher(line);
            if (start.find()) {
                owner = start.group(1);
            } else if (body.matches()) {
                method = owner + "." + (body.group(1).equals(owner) ? "<init>" : body.group(1));
                calls.put(method, new TreeSet<>());
            } else if (called.find()) {
                String to = (called.group(1) == null ? owner : called.group(1)) + "." + called.group(2);
                if (!to.equals(method)) {
                    calls.get(method).add(to);
                }
            }
        }
        return calls;
    }

    private static int depthOf(String method, Map<String, Set<String>> calls, int above) {
        int deepest = 0;
        // Methods that called one another would go on and on: more than there are methods is a circle.
        for (String called : above > calls.size() ? Set.<String>of() : calls.get(method)) {
            deepest = Math.max(deepest, depthOf(called, calls, above + 1));
        }
        return 1 + deepest;
    }

    private static void rule11Depth() throws IOException {
        // It comes with javac, but nothing of the project needs it, so without it the rest is still tested.
        Optional<ToolProvider> javap = ToolProvider.findFirst("javap");
        if (javap.isEmpty()) {
            System.out.println("LanguageTest: no javap here, how deep calls go is not looked at");
            return;
        }
        Map<String, Set<String>> calls = callsOfMethods(javap.get());
        check.due("methods whose calls were looked at: " + calls.size(), calls.size() > 100 ? 1 : 0, 1);
        int deepest = 0;
        for (String name : FACE) {
            int depth = depthOf("ShapeFrames." + name, calls, 0);
            check.due(name + " goes eight deep at most: " + depth, depth <= 8 ? 1 : 0, 1);
            deepest = Math.max(deepest, depth);
        }
        // Reading a text alone goes deeper than this, so less means that calls were not found.
        check.due("the deepest: " + deepest, deepest > 4 ? 1 : 0, 1);
    }

    /** All objects are a field's, made with it or in the constructor: so no call makes one. */
    private static void rule12ObjectsAreMadeOnce(List<String> lines) {
        Pattern field = Pattern.compile("^        private final \\S+ \\w+ = new .*|^        \\w+ = new \\w+\\(.*\\);$");
        for (String line : lines) {
            if (code(line).contains("new ")) {
                check.due("made once: " + line, field.matcher(line).matches() ? 1 : 0, 1);
            }
        }
    }
}
