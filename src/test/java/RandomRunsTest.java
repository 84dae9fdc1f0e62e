import java.lang.reflect.Method;
import java.util.ArrayList;
import java.util.Arrays;
import java.util.List;
import java.util.Random;

/** Runs of random calls, each answered by the class and by the model; the same ones every time. */
public final class RandomRunsTest {
    private static final Check check = new Check("RandomRunsTest");
    private static final String[] KINDS = {"shape", "each", "join", "turn", "fold", "ravel", "form"};
    // Mostly verbs that make a sum or a product, and those that make letters meet.
    private static final int[] SUMS = {1, 2, 2, 5, 6, 6};
    // Calls that may try out ten thousand ways are kept rare.
    private static final List<String> DEAR = List.of("ways", "way", "odds");
    private final Random random;
    private final ShapeFrames x = new ShapeFrames();
    private final Model model = new Model();
    private final List<String> log = new ArrayList<>();
    private final List<Method> methods = new ArrayList<>();
    private boolean agrees = true;

    private RandomRunsTest(long seed) {
        random = new Random(seed);
        for (Method method : ShapeFrames.class.getDeclaredMethods()) {
            if (java.lang.reflect.Modifier.isPublic(method.getModifiers()) && !method.getName().equals("write")) {
                methods.add(method);
            }
        }
        methods.sort((a, b) -> a.getName().compareTo(b.getName()));
    }

    public static void main(String[] args) throws ReflectiveOperationException {
        int runs = args.length > 0 ? Integer.parseInt(args[0]) : 3000;
        int first = args.length > 1 ? Integer.parseInt(args[1]) : 0;
        for (int seed = first; seed < first + runs; seed++) {
            new RandomRunsTest(seed).run();
        }
        check.end();
    }

    private void run() throws ReflectiveOperationException {
        int texts = 1 + random.nextInt(3);
        for (int i = 0; i < texts && agrees; i++) {
            tell(random.nextInt(4) == 0 ? brokenText() : text());
            for (int calls = 20 + random.nextInt(60); calls > 0 && agrees; calls--) {
                callAny();
            }
            lookAtAll();
        }
    }

    private void tell(String text) throws ReflectiveOperationException {
        for (int i = 0; i < text.length() && i < 200; i++) {
            call("write", (int) text.charAt(i));
        }
        call("fault");
        call("program");
    }

    private void lookAtAll() throws ReflectiveOperationException {
        for (int node = 0; node < 10; node++) {
            for (int axis = 0; axis < 6; axis++) {
                call("extent", node, axis);
            }
        }
        for (int what = 0; what < 7; what++) {
            call("fails", what);
            call("count", what);
        }
        call("open");
        call("mend");
        call("ways");
    }

    // ---- texts

    private String text() {
        StringBuilder made = new StringBuilder();
        int nodes = model.count(0);
        int clauses = 1 + random.nextInt(12);
        // Few letters and numbers in one text meet more often.
        int letters = 1 + random.nextInt(4);
        int numbers = 1 + random.nextInt(9);
        boolean grows = random.nextInt(4) == 0;
        boolean sums = random.nextBoolean();
        for (int i = 0; i < clauses; i++) {
            if (i > 0) {
                made.append(random.nextInt(3) == 0 ? " ; " : ";");
            }
            if (nodes == 10 && random.nextInt(20) != 0 || random.nextInt(60) == 0) {
                made.append("program");
                nodes = 0;
                continue;
            }
            int kind = nodes == 0 || random.nextInt(3) == 0 ? 0 : sums ? SUMS[random.nextInt(SUMS.length)] : random.nextInt(7);
            made.append(KINDS[kind]);
            for (int k = kind == 0 ? 0 : kind <= 2 ? 2 : 1; k > 0; k--) {
                made.append(' ').append(Math.max(0, nodes - 1 - random.nextInt(random.nextBoolean() ? 2 : nodes)));
            }
            if (kind == 0 || kind == 6) {
                extents(made, letters, numbers);
            } else {
                int rank = grows && random.nextInt(3) > 0 ? 0 : random.nextInt(7) - 3;
                made.append(' ').append(rank);
            }
            nodes++;
        }
        return made.toString();
    }

    private void extents(StringBuilder made, int letters, int numbers) {
        for (int k = random.nextInt(8) == 0 ? 0 : 1 + random.nextInt(3); k > 0; k--) {
            made.append(' ');
            if (random.nextBoolean()) {
                made.append((char) ('u' + random.nextInt(letters)));
            } else {
                made.append(random.nextInt(12) == 0 ? 0 : random.nextBoolean() ? 9 : 1 + random.nextInt(numbers));
            }
        }
    }

    private String brokenText() {
        StringBuilder made = new StringBuilder(text());
        String[] bits = {"-", ";", " ", "0", "7", "12", "123", "u", "uv", "y", "program", "shape", "join", ".", "Z",
            "" + (char) 200, "" + (char) 0, "\n"};
        for (int i = random.nextInt(3); i >= 0 && made.length() > 0; i--) {
            int place = random.nextInt(made.length() + 1);
            switch (random.nextInt(4)) {
                case 0 -> made.insert(place, bits[random.nextInt(bits.length)]);
                case 1 -> made.insert(place, " " + bits[random.nextInt(bits.length)] + " ");
                case 2 -> made.setLength(place);
                default -> made.delete(place, Math.min(made.length(), place + 1 + random.nextInt(2)));
            }
        }
        return made.toString();
    }

    // ---- calls

    private void callAny() throws ReflectiveOperationException {
        Method method = methods.get(random.nextInt(methods.size()));
        String name = method.getName();
        boolean resets = name.equals("program") || name.equals("erase");
        if (resets && random.nextInt(4) > 0 || DEAR.contains(name) && random.nextInt(3) > 0) {
            return;
        }
        Object[] args = new Object[method.getParameterCount()];
        for (int i = 0; i < args.length; i++) {
            args[i] = anyNumber(name, i);
        }
        call(name, args);
    }

    private int anyNumber(String name, int place) {
        if (random.nextInt(40) == 0) {
            int[] odd = {-1, -2, 100, 256, 10000, -10000, Integer.MAX_VALUE, Integer.MIN_VALUE};
            return odd[random.nextInt(odd.length)];
        }
        if (name.equals("seen")) {
            return place == 1 ? random.nextInt(6) == 0 ? 0 : 1 : 1 + random.nextInt(place == 0 ? 3 : 6);
        }
        boolean rowCall = List.of("row", "set", "get", "copy", "append", "load", "sum", "drop").contains(name);
        boolean rowPlace = place == 0 || name.equals("copy") && place == 2 || name.equals("append");
        if (rowCall && rowPlace) {
            return random.nextInt(15) == 0 ? 3 : random.nextInt(3);
        }
        if (rowCall && place == 1 && !name.equals("copy") && !name.equals("load")) {
            return random.nextInt(3) > 0 ? 0 : random.nextInt(3);
        }
        if (name.equals("row")) {
            return random.nextInt(14) - 1;
        }
        if (name.equals("set") && place == 3) {
            return random.nextInt(20003) - 10001;
        }
        if (name.equals("letter")) {
            return random.nextInt(15);
        }
        if (name.equals("give") && place == 1) {
            return random.nextInt(11);
        }
        if (name.equals("give") || name.equals("free") || name.equals("way")) {
            // Which letters behind the first four are refused in which way is left open by the document.
            return random.nextInt(5);
        }
        if (name.equals("keep") || name.equals("back") || name.equals("odds")) {
            return random.nextInt(3);
        }
        return random.nextInt(rowCall ? 6 : 11);
    }

    private void call(String name, Object... args) throws ReflectiveOperationException {
        if (!agrees) {
            return;
        }
        Class<?>[] types = new Class<?>[args.length];
        Arrays.fill(types, int.class);
        log.add(name + Arrays.toString(args));
        int want = (int) Model.class.getDeclaredMethod(name, types).invoke(model, args);
        int got = (int) ShapeFrames.class.getDeclaredMethod(name, types).invoke(x, args);
        if (got != want) {
            agrees = false;
            System.out.println("behind " + log);
        }
        check.due(name + Arrays.toString(args), got, want);
    }
}
