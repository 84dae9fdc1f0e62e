import java.io.IOException;
import java.nio.file.Files;
import java.nio.file.Path;

/** What the tests share: comparing answers, and telling texts to a new object. */
final class Check {
    private static final Path DOCUMENT = Path.of("../shared/DOC.md");
    private final String name;
    private String document = "";
    private String sentence = "";
    private int asked = 0;
    private int wrong = 0;

    Check(String name) {
        this.name = name;
    }

    void due(String call, long got, long want) {
        asked++;
        if (got != want) {
            wrong++;
            String asks = sentence.isEmpty() ? "" : " (\"" + sentence + "\")";
            System.out.println(name + ": " + call + " answered " + got + ", due is " + want + asks);
        }
    }

    /** What is tested from here on is asked for by these words, which must stand in the document. */
    void says(String words) {
        sentence = words;
        due("the document has these words", document().contains(words) ? 1 : 0, 1);
    }

    private String document() {
        if (document.isEmpty()) {
            try {
                document = Files.readString(DOCUMENT).replaceAll("\\s+", " ");
            } catch (IOException e) {
                System.out.println(name + ": " + DOCUMENT + " cannot be read");
            }
        }
        return document;
    }

    /** Prints how it went and ends with exit code 1 if an answer was wrong. */
    void end() {
        System.out.println(name + ": " + asked + " answers, " + wrong + " not as due");
        if (wrong != 0 || asked == 0) {
            System.exit(1);
        }
    }

    static void write(ShapeFrames x, String text) {
        for (int i = 0; i < text.length(); i++) {
            x.write(text.charAt(i));
        }
    }

    /** A new object to which this text was told; its last text must be free of faults. */
    ShapeFrames told(String text) {
        ShapeFrames x = new ShapeFrames();
        tell(x, text);
        return x;
    }

    void tell(ShapeFrames x, String text) {
        write(x, text);
        due("program() of \"" + text + "\"", x.program(), text.split(";", -1).length);
    }

    /** Where the fault of a text is, told to a new object behind an earlier text (empty: none). */
    void fault(String earlier, String text, int want) {
        ShapeFrames x = earlier.isEmpty() ? new ShapeFrames() : told(earlier);
        write(x, text);
        int nodes = x.count(0);
        due("fault() of \"" + text + "\"", x.fault(), want);
        due("count(5) behind fault()", x.count(5), text.length());
        due("count(0) behind fault()", x.count(0), nodes);
        if (want != ShapeFrames.NONE) {
            due("program() of \"" + text + "\"", x.program(), ShapeFrames.NOT);
            due("count(5) behind program() that is refused", x.count(5), text.length());
            due("count(0) behind program() that is refused", x.count(0), nodes);
        }
    }

    /** The shape of a node, solved. */
    void shape(ShapeFrames x, int node, int... extents) {
        due("node(" + node + ", 1)", x.node(node, 1), extents.length);
        for (int axis = 0; axis < extents.length; axis++) {
            due("extent(" + node + ", " + axis + ")", x.extent(node, axis), extents[axis]);
        }
        due("extent(" + node + ", " + extents.length + ")", x.extent(node, extents.length), ShapeFrames.OUTSIDE);
    }

    /** What fails: node, kind of failing, axis, both numbers; nothing given: nothing fails. */
    void fails(ShapeFrames x, int... parts) {
        for (int what = 0; what < 5; what++) {
            due("fails(" + what + ")", x.fails(what), parts.length == 0 ? ShapeFrames.NONE : parts[what]);
        }
    }
}
