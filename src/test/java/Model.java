import java.math.BigInteger;
import java.util.ArrayDeque;
import java.util.ArrayList;
import java.util.Arrays;
import java.util.Deque;
import java.util.List;
import java.util.regex.Matcher;
import java.util.regex.Pattern;

/** What the document says, done in the plainest way and with other means than the class: what it is compared with. */
final class Model {
    private static final int NONE = -1, UNKNOWN = -2, OUTSIDE = -3, NOT = -4, FULL = -5;
    private static final List<String> WORDS = List.of("shape", "each", "join", "turn", "fold", "ravel", "form");
    private static final Pattern TOKEN = Pattern.compile("[a-z]+|[0-9]+|[^ ]", Pattern.DOTALL);
    private static final BigInteger GREAT = BigInteger.valueOf(999999999999L);

    /** An extent: a number, or (told as below 0) a letter: -1 is u. */
    record Node(int kind, int m, int n, Integer r, List<Integer> told) { }

    record Token(String text, int place) { }

    /** The text cannot be done: where. */
    @SuppressWarnings("serial")
    static final class Fault extends Exception {
        final int place;

        Fault(int place) {
            this.place = place;
        }
    }

    /** Something fails: node, kind of failing, axis, both numbers. */
    @SuppressWarnings("serial")
    static final class Fails extends Exception {
        final int[] parts;

        Fails(int... parts) {
            super(null, null, false, false);
            this.parts = parts;
        }
    }

    private String text = "";
    private List<Node> nodes = new ArrayList<>();
    private Integer[] given = new Integer[4];
    private final Deque<Integer[]> earlier = new ArrayDeque<>();
    private final Integer[][] kept = new Integer[2][];
    private final List<int[]> seen = new ArrayList<>();
    private final int[][] rows = new int[3][];
    private final int[] sorts = new int[3];

    // ---- the text

    private int clauses;
    private List<Token> tokens;
    private int at;

    private Token here() {
        return tokens.get(at);
    }

    private int number(int least, int most) throws Fault {
        Token token = here();
        if (!token.text.matches("[0-9]{1,2}") || Integer.parseInt(token.text) < least
            || Integer.parseInt(token.text) > most) {
            throw new Fault(token.place);
        }
        at++;
        return Integer.parseInt(token.text);
    }

    private int rank() throws Fault {
        if (here().text.equals("-")) {
            at++;
            return -number(1, 3);
        }
        return number(0, 3);
    }

    private Node clause(int kind, List<Node> all) throws Fault {
        Token word = here();
        if (all.size() == 10) {
            throw new Fault(word.place);
        }
        at++;
        int m = kind == 0 ? NONE : number(0, all.size() - 1);
        int n = kind == 1 || kind == 2 ? number(0, all.size() - 1) : NONE;
        Integer r = kind == 0 || kind == 6 ? null : Integer.valueOf(rank());
        List<Integer> told = new ArrayList<>();
        while ((kind == 0 || kind == 6) && told.size() < 3 && !here().text.isEmpty() && !here().text.equals(";")) {
            if (here().text.matches("[u-x]")) {
                told.add('u' - here().text.charAt(0) - 1);
                at++;
            } else {
                told.add(number(0, 9));
            }
        }
        Node node = new Node(kind, m, n, r, told);
        List<Node> with = new ArrayList<>(all);
        with.add(node);
        if (shape(with, all.size()).size() > 6) {
            throw new Fault(word.place);
        }
        return node;
    }

    /** The nodes that there would be behind the text. */
    private List<Node> read() throws Fault {
        tokens = new ArrayList<>();
        Matcher matcher = TOKEN.matcher(text);
        while (matcher.find()) {
            tokens.add(new Token(matcher.group(), matcher.start()));
        }
        tokens.add(new Token("", text.length()));
        at = 0;
        clauses = 0;
        List<Node> all = new ArrayList<>(nodes);
        while (true) {
            int kind = WORDS.indexOf(here().text);
            if (here().text.equals("program")) {
                all.clear();
                at++;
            } else if (kind < 0) {
                throw new Fault(here().place);
            } else {
                all.add(clause(kind, all));
            }
            clauses++;
            if (here().text.isEmpty()) {
                return all;
            }
            if (!here().text.equals(";") || clauses == 24) {
                throw new Fault(here().place);
            }
            at++;
        }
    }

    // ---- shapes

    private static int cut(int axes, int r) {
        return r >= 0 ? Math.max(axes - r, 0) : Math.min(axes, -r);
    }

    private static List<Integer> frame(List<Integer> shape, int r) {
        return shape.subList(0, cut(shape.size(), r));
    }

    private static List<Integer> cell(List<Integer> shape, int r) {
        return shape.subList(cut(shape.size(), r), shape.size());
    }

    private static List<Integer> joined(List<Integer> cell) {
        return cell.isEmpty() ? List.of(1) : cell;
    }

    private static List<Integer> behind(List<Integer> cell) {
        return cell.isEmpty() ? cell : cell.subList(1, cell.size());
    }

    private static List<Integer> longer(List<Integer> one, List<Integer> other) {
        return one.size() >= other.size() ? one : other;
    }

    private static int own(int node) {
        return -(4 + node) - 1;
    }

    private static List<Integer> shape(List<Node> all, int number) {
        Node node = all.get(number);
        if (node.kind == 0 || node.kind == 6) {
            return node.told;
        }
        List<Integer> m = shape(all, node.m);
        List<Integer> made = new ArrayList<>();
        if (node.kind <= 2) {
            List<Integer> n = shape(all, node.n);
            made.addAll(longer(frame(m, node.r), frame(n, node.r)));
            if (node.kind == 1) {
                made.addAll(longer(cell(m, node.r), cell(n, node.r)));
            } else {
                made.add(own(number));
                made.addAll(longer(behind(joined(cell(m, node.r))), behind(joined(cell(n, node.r)))));
            }
        } else if (node.kind == 3) {
            made.addAll(m);
        } else {
            made.addAll(frame(m, node.r));
            if (node.kind == 4) {
                made.addAll(behind(cell(m, node.r)));
            } else {
                made.add(own(number));
            }
        }
        return made;
    }

    // ---- solving

    /** What each letter is: a number, or (below 0) the least letter that it is alike. */
    private static int value(int[] letters, int extent) {
        return extent >= 0 ? extent : letters[-extent - 1];
    }

    private static void become(int[] letters, int old, int value) {
        for (int i = 0; i < letters.length; i++) {
            if (letters[i] == old) {
                letters[i] = value;
            }
        }
    }

    private static void meet(int[] letters, int node, int by, int first, List<Integer> one, List<Integer> other)
        throws Fails {
        for (int i = 0; i < Math.min(one.size(), other.size()); i++) {
            int x = value(letters, one.get(i));
            int y = value(letters, other.get(i));
            if (x >= 0 && y >= 0 && x != y) {
                throw new Fails(node, by, first + i, x, y);
            }
            // A number is above all letters here, and of letters the least is the one nearest to 0.
            become(letters, Math.min(x, y), Math.max(x, y));
        }
    }

    private static int[] solve(List<Node> all, Integer[] given, int[] letters) {
        for (int i = 0; i < 14; i++) {
            letters[i] = i < 4 && given[i] != null ? given[i] : -i - 1;
        }
        List<List<Integer>> shapes = new ArrayList<>();
        for (int i = 0; i < all.size(); i++) {
            shapes.add(shape(all, i));
        }
        try {
            for (int i = 0; i < all.size(); i++) {
                Node node = all.get(i);
                if (node.kind != 1 && node.kind != 2) {
                    continue;
                }
                List<Integer> m = shapes.get(node.m);
                List<Integer> n = shapes.get(node.n);
                meet(letters, i, 1, 0, frame(m, node.r), frame(n, node.r));
                if (node.kind == 1) {
                    meet(letters, i, 2, 0, cell(m, node.r), cell(n, node.r));
                } else {
                    meet(letters, i, 2, 1, behind(cell(m, node.r)), behind(cell(n, node.r)));
                }
            }
            boolean more = true;
            while (more) {
                more = false;
                for (int i = 0; i < all.size(); i++) {
                    more |= equation(all.get(i), i, shapes, letters);
                }
            }
            return null;
        } catch (Fails fails) {
            return fails.parts;
        }
    }

    private static boolean equation(Node node, int number, List<List<Integer>> shapes, int[] letters) throws Fails {
        if (node.kind == 2) {
            List<Integer> right = List.of(joined(cell(shapes.get(node.m), node.r)).get(0),
                joined(cell(shapes.get(node.n), node.r)).get(0));
            return balance(List.of(own(number)), right, letters, true, number);
        }
        if (node.kind == 5) {
            return balance(List.of(own(number)), cell(shapes.get(node.m), node.r), letters, false, number);
        }
        return node.kind == 6 && balance(node.told, shapes.get(node.m), letters, false, number);
    }

    private static boolean balance(List<Integer> left, List<Integer> right, int[] letters, boolean sum, int node)
        throws Fails {
        Fails fails = new Fails(node, sum ? 3 : 4, 0, 0, 0);
        List<Integer> unknown = new ArrayList<>();
        for (int extent : left) {
            unknown.add(value(letters, extent));
        }
        int inLeft = 0;
        for (int extent : unknown) {
            inLeft += extent < 0 ? 1 : 0;
        }
        for (int extent : right) {
            unknown.add(value(letters, extent));
        }
        unknown.removeIf(extent -> extent >= 0);
        if (unknown.size() > 1) {
            return false;
        }
        BigInteger l = total(left, letters, sum);
        BigInteger r = total(right, letters, sum);
        if (!sum && (l.compareTo(GREAT) > 0 || r.compareTo(GREAT) > 0)) {
            throw fails;
        }
        if (unknown.isEmpty()) {
            if (!l.equals(r)) {
                throw fails;
            }
            return false;
        }
        BigInteger goal = inLeft == 1 ? r : l;
        BigInteger rest = inLeft == 1 ? l : r;
        BigInteger answer;
        if (sum) {
            answer = goal.subtract(rest);
        } else if (rest.signum() == 0) {
            if (goal.signum() != 0) {
                throw fails;
            }
            return false;
        } else {
            if (goal.mod(rest).signum() != 0) {
                throw fails;
            }
            answer = goal.divide(rest);
        }
        if (answer.signum() < 0 || answer.compareTo(BigInteger.valueOf(9999)) > 0) {
            throw fails;
        }
        become(letters, unknown.get(0), answer.intValue());
        return true;
    }

    private static BigInteger total(List<Integer> extents, int[] letters, boolean sum) {
        BigInteger all = sum ? BigInteger.ZERO : BigInteger.ONE;
        for (int extent : extents) {
            int value = value(letters, extent);
            if (value >= 0) {
                all = sum ? all.add(BigInteger.valueOf(value)) : all.multiply(BigInteger.valueOf(value));
            }
        }
        return all;
    }

    private int[] solvedFail;
    private final int[] letters = new int[14];

    private void solve() {
        solvedFail = solve(nodes, given, letters);
    }

    private static int answer(int value) {
        return value >= 0 ? value : 20000 - value - 1;
    }

    // ---- ways

    private List<Integer> openLetters() {
        solve();
        List<Integer> open = new ArrayList<>();
        for (int letter = 0; letter < 4; letter++) {
            if ((toldLetters() >> letter & 1) == 1 && letters[letter] == -letter - 1) {
                open.add(letter);
            }
        }
        return open;
    }

    private int toldLetters() {
        int bits = 0;
        for (Node node : nodes) {
            for (int extent : node.told) {
                bits |= extent < 0 ? 1 << (-extent - 1) : 0;
            }
        }
        return bits;
    }

    /** How many ways there are, and the first one: tried out, all of them. */
    private int[] allWays(List<Integer> open) {
        int[] found = {0, -1, -1, -1, -1};
        if (solvedFail != null) {
            return found;
        }
        int most = (int) Math.pow(10, open.size());
        int[] scratch = new int[14];
        for (int way = 0; way < most; way++) {
            Integer[] with = given.clone();
            int digits = way;
            for (int i = open.size() - 1; i >= 0; i--) {
                with[open.get(i)] = digits % 10;
                digits /= 10;
            }
            if (solve(nodes, with, scratch) == null) {
                if (found[0] == 0) {
                    for (int letter : open) {
                        found[letter + 1] = with[letter];
                    }
                }
                found[0]++;
            }
        }
        return found;
    }

    // ---- the calls

    int write(int letter) {
        if (letter < 0 || letter > 255) {
            return OUTSIDE;
        }
        if (text.length() == 200) {
            return FULL;
        }
        text += (char) letter;
        return text.length();
    }

    int erase() {
        int had = text.length();
        text = "";
        return had;
    }

    int fault() {
        try {
            read();
            return NONE;
        } catch (Fault fault) {
            return fault.place;
        }
    }

    int program() {
        try {
            nodes = read();
        } catch (Fault fault) {
            return NOT;
        }
        text = "";
        given = new Integer[4];
        earlier.clear();
        Arrays.fill(kept, null);
        seen.clear();
        Arrays.fill(rows, null);
        return clauses;
    }

    private boolean no(int node) {
        return node < 0 || node >= nodes.size();
    }

    int node(int node, int what) {
        if (no(node)) {
            return UNKNOWN;
        }
        Node one = nodes.get(node);
        return switch (what) {
            case 0 -> one.kind;
            case 1 -> shape(nodes, node).size();
            case 2 -> one.m;
            case 3 -> one.n;
            case 4 -> one.r == null ? NONE : one.r + 10;
            default -> OUTSIDE;
        };
    }

    int extent(int node, int axis) {
        if (no(node)) {
            return UNKNOWN;
        }
        List<Integer> shape = shape(nodes, node);
        if (axis < 0 || axis >= shape.size()) {
            return OUTSIDE;
        }
        solve();
        return answer(value(letters, shape.get(axis)));
    }

    int as(int node, int kind) {
        if (no(node)) {
            return UNKNOWN;
        }
        if (kind < 0 || kind > 5) {
            return OUTSIDE;
        }
        String[] all = {"", "0 1", "0 1 2", "0 3", "0 3 4", "0 3 4 5", ""};
        return all[nodes.get(node).kind].contains("" + kind) ? 1 : NOT;
    }

    private int howManyGiven() {
        return Integer.bitCount(givenBits());
    }

    private int givenBits() {
        int bits = 0;
        for (int i = 0; i < 4; i++) {
            bits |= given[i] == null ? 0 : 1 << i;
        }
        return bits;
    }

    private void change(int letter, Integer value) {
        earlier.addLast(given.clone());
        if (earlier.size() > 8) {
            earlier.removeFirst();
        }
        given[letter] = value;
    }

    int give(int letter, int v) {
        if (letter < 0 || letter > 3) {
            return UNKNOWN;
        }
        if (v < 0 || v > 9) {
            return OUTSIDE;
        }
        if (given[letter] != null && given[letter] == v) {
            return NOT;
        }
        change(letter, v);
        return howManyGiven();
    }

    int free(int letter) {
        if (letter < 0 || letter > 3) {
            return UNKNOWN;
        }
        if (given[letter] == null) {
            return NOT;
        }
        change(letter, null);
        return howManyGiven();
    }

    int undo() {
        if (earlier.isEmpty()) {
            return NOT;
        }
        given = earlier.removeLast();
        return earlier.size();
    }

    int keep(int k) {
        if (k != 0 && k != 1) {
            return UNKNOWN;
        }
        kept[k] = given.clone();
        return howManyGiven();
    }

    int back(int k) {
        if (k != 0 && k != 1) {
            return UNKNOWN;
        }
        if (kept[k] == null) {
            return NOT;
        }
        given = kept[k].clone();
        earlier.clear();
        return howManyGiven();
    }

    int letter(int letter) {
        boolean own = letter >= 4 && letter - 4 < nodes.size()
            && (nodes.get(letter - 4).kind == 2 || nodes.get(letter - 4).kind == 5);
        if (!own && (letter < 0 || letter > 3)) {
            return UNKNOWN;
        }
        solve();
        return answer(letters[letter]);
    }

    int fails(int what) {
        if (what < 0 || what > 4) {
            return OUTSIDE;
        }
        solve();
        return solvedFail == null ? NONE : solvedFail[what];
    }

    int open() {
        int bits = 0;
        for (int letter : openLetters()) {
            bits |= 1 << letter;
        }
        return bits;
    }

    int ways() {
        return allWays(openLetters())[0];
    }

    int way(int letter) {
        if (letter < 0 || letter > 3) {
            return UNKNOWN;
        }
        List<Integer> open = openLetters();
        return open.contains(letter) ? allWays(open)[letter + 1] : NOT;
    }

    int odds(int part) {
        if (part != 0 && part != 1) {
            return OUTSIDE;
        }
        List<Integer> open = openLetters();
        BigInteger above = BigInteger.valueOf(allWays(open)[0]);
        BigInteger below = BigInteger.TEN.pow(open.size());
        BigInteger common = above.gcd(below);
        return (part == 0 ? above : below).divide(common).intValue();
    }

    int mend() {
        solve();
        if (solvedFail == null) {
            return NONE;
        }
        int[] scratch = new int[14];
        for (int code = 0; code < 1000; code++) {
            int node = code / 100;
            int axis = code / 10 % 10;
            if (node >= nodes.size() || axis >= nodes.get(node).told.size()) {
                continue;
            }
            Node old = nodes.get(node);
            List<Integer> told = new ArrayList<>(old.told);
            told.set(axis, code % 10);
            List<Node> with = new ArrayList<>(nodes);
            with.set(node, new Node(old.kind, old.m, old.n, old.r, told));
            if (solve(with, given, scratch) == null) {
                return code;
            }
        }
        return NONE;
    }

    int seen(int n, int a, int m) {
        if (n < 1 || n > 9 || a < 0 || a > 1 || m < 0 || m > 99) {
            return OUTSIDE;
        }
        if (seen.size() == 6) {
            return FULL;
        }
        seen.add(new int[] {n, a, m});
        return seen.size();
    }

    int forget() {
        int were = seen.size();
        seen.clear();
        return were;
    }

    /** What a verb at rank 3 makes of one axis, by making it. */
    private static List<Integer> would(int kind, int n) {
        List<Node> all = new ArrayList<>();
        all.add(new Node(0, NONE, NONE, null, List.of(n)));
        all.add(new Node(kind, 0, kind <= 2 ? 0 : NONE, 3, List.of()));
        int[] scratch = new int[14];
        solve(all, new Integer[4], scratch);
        List<Integer> made = new ArrayList<>();
        for (int extent : shape(all, 1)) {
            made.add(value(scratch, extent));
        }
        return made;
    }

    int kinds() {
        int bits = 0;
        for (int kind = 1; kind <= 5; kind++) {
            boolean fits = true;
            for (int[] one : seen) {
                List<Integer> shape = would(kind, one[0]);
                fits &= one[1] == 0 ? shape.isEmpty() && one[2] == 0 : shape.equals(List.of(one[2]));
            }
            bits |= fits ? 1 << kind : 0;
        }
        return bits;
    }

    int ask() {
        int all = kinds();
        int best = NONE;
        int bestPart = Integer.bitCount(all);
        for (int n = 9; n >= 1; n--) {
            int greatest = 0;
            for (int one = 1; one <= 5; one++) {
                int part = 0;
                for (int other = 1; other <= 5; other++) {
                    boolean alike = would(one, n).equals(would(other, n));
                    part += alike && (all >> one & 1) == 1 && (all >> other & 1) == 1 ? 1 : 0;
                }
                greatest = Math.max(greatest, part);
            }
            if (greatest < Integer.bitCount(all) && greatest <= bestPart) {
                best = n;
                bestPart = greatest;
            }
        }
        return best;
    }

    int row(int row, int sort, int n) {
        if (row < 0 || row > 2) {
            return UNKNOWN;
        }
        if (sort < 0 || sort > 1 || n > 10) {
            return OUTSIDE;
        }
        if (n < 0) {
            return -12;
        }
        rows[row] = new int[n];
        sorts[row] = sort;
        return n;
    }

    int set(int row, int sort, int i, int v) {
        if (row < 0 || row > 2) {
            return UNKNOWN;
        }
        if (v < -9999 || v > 9999) {
            return OUTSIDE;
        }
        int was = get(row, sort, i);
        if (was > 0) {
            rows[row][i] = v;
        }
        return was;
    }

    int get(int row, int sort, int i) {
        if (row < 0 || row > 2) {
            return UNKNOWN;
        }
        if (sort < 0 || sort > 1) {
            return OUTSIDE;
        }
        if (rows[row] == null) {
            return -11;
        }
        if (sorts[row] != sort) {
            return -13;
        }
        return i < 0 || i >= rows[row].length ? -14 : rows[row][i] + 50000;
    }

    int copy(int from, int i, int to, int j, int n) {
        if (from < 0 || from > 2 || to < 0 || to > 2) {
            return UNKNOWN;
        }
        if (rows[from] == null || rows[to] == null) {
            return -11;
        }
        if (n < 0) {
            return -12;
        }
        if (sorts[from] != sorts[to]) {
            return -13;
        }
        try {
            System.arraycopy(rows[from], i, rows[to], j, n);
            return n;
        } catch (IndexOutOfBoundsException e) {
            return -14;
        }
    }

    int append(int row, int other) {
        if (row < 0 || row > 2 || other < 0 || other > 2) {
            return UNKNOWN;
        }
        if (rows[row] == null || rows[other] == null) {
            return -11;
        }
        int[] both = Arrays.copyOf(rows[row], rows[row].length + rows[other].length);
        if (both.length > 10) {
            return -15;
        }
        System.arraycopy(rows[other], 0, both, rows[row].length, rows[other].length);
        rows[row] = both;
        return both.length;
    }

    int load(int row, int node) {
        if (row < 0 || row > 2 || no(node)) {
            return UNKNOWN;
        }
        if (rows[row] == null) {
            return -11;
        }
        if (sorts[row] == 1) {
            return -13;
        }
        List<Integer> shape = shape(nodes, node);
        if (shape.size() > rows[row].length) {
            return -14;
        }
        solve();
        for (int axis = 0; axis < shape.size(); axis++) {
            rows[row][axis] = Math.max(-1, value(letters, shape.get(axis)));
        }
        return shape.size();
    }

    int sum(int row) {
        if (row < 0 || row > 2) {
            return UNKNOWN;
        }
        return rows[row] == null ? -11 : Arrays.stream(rows[row]).sum() + 500000;
    }

    int drop(int row) {
        if (row < 0 || row > 2) {
            return UNKNOWN;
        }
        if (rows[row] == null) {
            return -11;
        }
        int had = rows[row].length;
        rows[row] = null;
        return had;
    }

    int count(int what) {
        int places = 0;
        for (int[] row : rows) {
            places += row == null ? 0 : row.length;
        }
        return switch (what) {
            case 0 -> nodes.size();
            case 1 -> givenBits();
            case 2 -> seen.size();
            case 3 -> places;
            case 4 -> earlier.size();
            case 5 -> text.length();
            case 6 -> toldLetters();
            default -> OUTSIDE;
        };
    }
}
