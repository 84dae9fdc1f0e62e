import java.io.IOException;
import java.lang.reflect.Method;
import java.lang.reflect.Modifier;
import java.nio.file.Files;
import java.nio.file.Path;
import java.util.ArrayList;
import java.util.Arrays;
import java.util.List;
import java.util.Set;
import java.util.TreeSet;
import java.util.regex.Matcher;
import java.util.regex.Pattern;
import java.util.stream.Stream;

/** The document from its first line on: its face is the class's, and each sentence is quoted by a test; it is run in the project's folder. */
public final class DocumentTest {
    private static final Pattern LITERAL = Pattern.compile("\"((?:[^\"\\\\]|\\\\.)*)\"");
    private static final Pattern QUOTE = Pattern.compile("\\.says\\(\\s*(" + LITERAL + "(?:\\s*\\+\\s*" + LITERAL + ")*)");
    // What is no sentence: headings, marks, and the calls' signatures, which are compared with the class.
    private static final Pattern NO_SENTENCE = Pattern.compile("## Terms|## Promise [0-9]+: (A new object|\\w+)|```(text)?|======== [0-9]"
        + "|`(int )?\\w+\\([\\w, ]*\\)`:");
    private static final Check check = new Check("DocumentTest");

    public static void main(String[] args) throws IOException {
        String document = Files.readString(Path.of("../shared/DOC.md")).replaceAll("\\s+", " ");
        theFaceIsTheClass(document);
        headingsOfTheInterface();
        eachSentenceIsQuoted(document);
        check.end();
    }

    private static void theFaceIsTheClass(String document) {
        Set<String> due = new TreeSet<>();
        Matcher told = Pattern.compile("public int (\\w+\\([\\w, ]*\\));").matcher(document);
        while (told.find()) {
            due.add(told.group(1).replaceAll(" \\w+(?=[,)])", ""));
        }
        check.due("calls that the document tells", due.size(), 32);
        Set<String> has = new TreeSet<>();
        for (Method method : ShapeFrames.class.getDeclaredMethods()) {
            if (Modifier.isPublic(method.getModifiers())) {
                String types = Arrays.toString(method.getParameterTypes());
                has.add(method.getName() + "(" + types.substring(1, types.length() - 1) + ")");
                check.due(method + " answers an int", method.getReturnType() == int.class ? 1 : 0, 1);
            }
        }
        check.due("the calls " + has + " are the document's " + due, has.equals(due) ? 1 : 0, 1);
    }

    private static void headingsOfTheInterface() throws IOException {
        check.says("Ahead of the calls `write`, `erase`, `fault`, `program`, `node`, `extent`, `as` the interface says: ---- what is told.");
        calls("what is told", "write, erase, fault, program, node, extent, as");
        check.says("Ahead of the calls `give`, `free`, `undo`, `keep`, `back` the interface says: ---- what is given.");
        calls("what is given", "give, free, undo, keep, back");
        check.says("Ahead of the calls `letter`, `fails`, `open`, `ways`, `way`, `odds`, `mend` the interface says: ---- solved.");
        calls("solved", "letter, fails, open, ways, way, odds, mend");
        check.says("Ahead of the calls `seen`, `forget`, `kinds`, `ask` the interface says: ---- what was seen.");
        calls("what was seen", "seen, forget, kinds, ask");
        check.says("Ahead of the calls `row`, `set`, `get`, `copy`, `append`, `load`, `sum`, `drop`, `count` the interface says: ---- rows.");
        calls("rows", "row, set, get, copy, append, load, sum, drop, count");
    }

    /** The calls that stand in the class between this heading and the next one. */
    private static void calls(String heading, String due) throws IOException {
        List<String> has = new ArrayList<>();
        boolean here = false;
        for (String line : Files.readAllLines(Path.of("src/main/java/ShapeFrames.java"))) {
            Matcher call = Pattern.compile("    public int (\\w+)\\(.*").matcher(line);
            if (line.startsWith("    // ----")) {
                here = line.equals("    // ---- " + heading);
            } else if (here && call.matches()) {
                has.add(call.group(1));
            }
        }
        String found = String.join(", ", has);
        check.due("behind \"" + heading + "\" stand " + found, found.equals(due) ? 1 : 0, 1);
    }

    private static void eachSentenceIsQuoted(String document) throws IOException {
        int from = document.indexOf("## Terms");
        int to = document.indexOf("## Not promised");
        check.due("the document has its promises", from >= 0 && to > from ? 1 : 0, 1);
        boolean[] quoted = new boolean[document.length()];
        for (String quote : allQuotes()) {
            for (int at = document.indexOf(quote); at >= 0 && at < to; at = document.indexOf(quote, at + 1)) {
                Arrays.fill(quoted, at, at + quote.length(), true);
            }
        }
        StringBuilder left = new StringBuilder();
        for (int at = Math.max(0, from); at < to; at++) {
            left.append(quoted[at] ? '\n' : document.charAt(at));
        }
        for (String piece : NO_SENTENCE.matcher(left).replaceAll("\n").split("\n+")) {
            check.due("no test quotes \"" + piece + "\"", piece.matches(".*[A-Za-z0-9].*") ? 1 : 0, 0);
        }
    }

    private static List<String> allQuotes() throws IOException {
        List<String> quotes = new ArrayList<>();
        List<Path> tests;
        try (Stream<Path> files = Files.list(Path.of("src/test/java"))) {
            tests = files.sorted().toList();
        }
        for (Path test : tests) {
            Matcher quote = QUOTE.matcher(Files.readString(test));
            while (quote.find()) {
                StringBuilder words = new StringBuilder();
                Matcher literal = LITERAL.matcher(quote.group(1));
                while (literal.find()) {
                    words.append(literal.group(1).replace("\\\"", "\""));
                }
                quotes.add(words.toString());
            }
        }
        check.due("quotes that were found: " + quotes.size(), quotes.size() > 100 ? 1 : 0, 1);
        return quotes;
    }
}
