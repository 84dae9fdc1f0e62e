import java.util.Arrays;

/** Shapes of an array language, found without running it: ../shared/DOC.md tells what each call answers. */
public final class ShapeFrames {
    public static final int NONE = -1, UNKNOWN = -2, OUTSIDE = -3, NOT = -4, FULL = -5,
        NULL = -11, SIZE = -12, CAST = -13, INDEX = -14, ROOM = -15;

    private static final int SHAPE = 0, EACH = 1, JOIN = 2, TURN = 3, FOLD = 4, RAVEL = 5, FORM = 6;
    // The word that starts anew is read like a kind's word, but makes no node.
    private static final int ANEW = 7;
    // A verb's kind by number (shapes and forms are no verbs), and the kind above it; 0 is any verb.
    private static final int[] ABOVE = {NONE, 0, 1, 0, 3, 4, NONE};

    private static final int MOST_NODES = 10, MOST_AXES = 6, MOST_TOLD = 3;
    private static final int MOST_LETTERS = 200, MOST_CLAUSES = 24;
    private static final int MOST_RANK = 3, NO_RANK = -11;
    private static final int MOST_DIGIT = 9, DIGITS = 10;
    private static final int MOST_UNDONE = 8, MOST_KEPT = 2;
    private static final int MOST_SEEN = 6, MOST_SEEN_EXTENT = 99;
    private static final int ROWS = 3, MOST_PLACES = 10, MOST_IN_ROW = 9999;
    private static final int PLACE_BASE = 50000, SUM_BASE = 500000;

    // The letters u to x come first, then one for each node that could have its own.
    private static final int PLAIN = 4, LETTERS = PLAIN + MOST_NODES;
    // Numbers end below this, so that one int can hold a number or a letter.
    private static final int LETTER = 20000, MOST_EXTENT = 9999;
    private static final long MOST_PRODUCT = 999999999999L;
    private static final int BY_FRAMES = 1, BY_CELLS = 2, BY_SUM = 3, BY_PRODUCT = 4, FAIL_PARTS = 5;

    private final Text text;
    private final Nodes nodes;
    // What a text or a mending would make of the nodes is tried on these, not on the ones that count.
    private final Nodes trial;
    private final Solver solver;
    private final Solver trialSolver;
    private final Given given;
    private final Ways found;
    private final Seen shapesSeen;
    private final Rows rows;
    // Solving and counting are dear, so what they found holds until the nodes or the given ones change.
    private boolean solved;
    private boolean counted;

    public ShapeFrames() {
        text = new Text();
        nodes = new Nodes();
        trial = new Nodes();
        solver = new Solver(nodes);
        trialSolver = new Solver(trial);
        given = new Given();
        found = new Ways(new Solver(nodes));
        shapesSeen = new Seen();
        rows = new Rows();
        solved = false;
        counted = false;
    }

    // ---- what is told

    public int write(int letter) {
        if (letter < 0 || letter > 255) {
            return OUTSIDE;
        }
        return text.add(letter) ? text.length() : FULL;
    }

    public int erase() {
        int had = text.length();
        text.clear();
        return had;
    }

    public int fault() {
        trial.takeAll(nodes);
        return text.read(trial);
    }

    public int program() {
        trial.takeAll(nodes);
        if (text.read(trial) != NONE) {
            return NOT;
        }
        nodes.takeAll(trial);
        text.clear();
        given.clear();
        shapesSeen.clear();
        rows.clear();
        forgetSolved();
        return text.clausesRead();
    }

    public int node(int node, int what) {
        if (!nodes.has(node)) {
            return UNKNOWN;
        }
        switch (what) {
            case 0:
                return nodes.kindOf(node);
            case 1:
                return nodes.axesOf(node);
            case 2:
                return nodes.firstOf(node);
            case 3:
                return nodes.secondOf(node);
            case 4:
                int rank = nodes.rankOf(node);
                return rank == NO_RANK ? NONE : rank + 10;
            default:
                return OUTSIDE;
        }
    }

    public int extent(int node, int axis) {
        if (!nodes.has(node)) {
            return UNKNOWN;
        }
        if (axis < 0 || axis >= nodes.axesOf(node)) {
            return OUTSIDE;
        }
        solveNow();
        return solver.valueOf(nodes.at(node, axis));
    }

    public int as(int node, int kind) {
        if (!nodes.has(node)) {
            return UNKNOWN;
        }
        if (kind < 0 || kind > RAVEL) {
            return OUTSIDE;
        }
        return isVerb(nodes.kindOf(node), kind) ? 1 : NOT;
    }

    // ---- what is given

    public int give(int letter, int v) {
        if (!isPlain(letter)) {
            return UNKNOWN;
        }
        if (v < 0 || v > MOST_DIGIT) {
            return OUTSIDE;
        }
        if (given.numberOf(letter) == v) {
            return NOT;
        }
        given.change(letter, v);
        forgetSolved();
        return given.howMany();
    }

    public int free(int letter) {
        if (!isPlain(letter)) {
            return UNKNOWN;
        }
        if (given.numberOf(letter) == NONE) {
            return NOT;
        }
        given.change(letter, NONE);
        forgetSolved();
        return given.howMany();
    }

    public int undo() {
        if (given.undoable() == 0) {
            return NOT;
        }
        given.takeBack();
        forgetSolved();
        return given.undoable();
    }

    public int keep(int k) {
        if (k < 0 || k >= MOST_KEPT) {
            return UNKNOWN;
        }
        given.store(k);
        return given.howMany();
    }

    public int back(int k) {
        if (k < 0 || k >= MOST_KEPT) {
            return UNKNOWN;
        }
        if (!given.isStored(k)) {
            return NOT;
        }
        given.restore(k);
        forgetSolved();
        return given.howMany();
    }

    // ---- solved

    public int letter(int letter) {
        if (!isPlain(letter) && !nodes.hasOwnLetter(letter)) {
            return UNKNOWN;
        }
        solveNow();
        return solver.valueOf(LETTER + letter);
    }

    public int fails(int what) {
        if (what < 0 || what >= FAIL_PARTS) {
            return OUTSIDE;
        }
        solveNow();
        return solver.failPart(what);
    }

    public int open() {
        solveNow();
        return solver.openLetters();
    }

    public int ways() {
        countNow();
        return found.howMany();
    }

    public int way(int letter) {
        if (!isPlain(letter)) {
            return UNKNOWN;
        }
        countNow();
        if (!found.isOpen(letter)) {
            return NOT;
        }
        return found.firstOf(letter);
    }

    public int odds(int part) {
        if (part < 0 || part > 1) {
            return OUTSIDE;
        }
        countNow();
        int above = found.howMany();
        int below = found.howManyAtMost();
        int common = commonDivisor(above, below);
        if (common == 0) {
            return NONE;
        }
        return (part == 0 ? above : below) / common;
    }

    public int mend() {
        solveNow();
        if (!solver.hasFailed()) {
            return NONE;
        }
        for (int node = 0; node < nodes.size(); node++) {
            if (!nodes.isTold(node)) {
                continue;
            }
            for (int axis = 0; axis < nodes.axesOf(node); axis++) {
                int digit = mendingDigit(node, axis);
                if (digit != NONE) {
                    return 100 * node + 10 * axis + digit;
                }
            }
        }
        return NONE;
    }

    // ---- what was seen

    public int seen(int n, int a, int m) {
        if (n < 1 || n > MOST_DIGIT || a < 0 || a > 1 || m < 0 || m > MOST_SEEN_EXTENT) {
            return OUTSIDE;
        }
        return shapesSeen.add(n, a, m) ? shapesSeen.size() : FULL;
    }

    public int forget() {
        int were = shapesSeen.size();
        shapesSeen.clear();
        return were;
    }

    public int kinds() {
        return shapesSeen.kindsThatFit();
    }

    public int ask() {
        return shapesSeen.bestToAsk();
    }

    // ---- rows

    public int row(int row, int sort, int n) {
        if (!isRow(row)) {
            return UNKNOWN;
        }
        if (!isSort(sort) || n > MOST_PLACES) {
            return OUTSIDE;
        }
        if (n < 0) {
            return SIZE;
        }
        rows.make(row, sort, n);
        return n;
    }

    public int set(int row, int sort, int i, int v) {
        if (!isRow(row)) {
            return UNKNOWN;
        }
        if (!isSort(sort) || v < -MOST_IN_ROW || v > MOST_IN_ROW) {
            return OUTSIDE;
        }
        int trouble = rows.placeTrouble(row, sort, i);
        if (trouble != NONE) {
            return trouble;
        }
        int was = rows.at(row, i);
        rows.put(row, i, v);
        return was + PLACE_BASE;
    }

    public int get(int row, int sort, int i) {
        if (!isRow(row)) {
            return UNKNOWN;
        }
        if (!isSort(sort)) {
            return OUTSIDE;
        }
        int trouble = rows.placeTrouble(row, sort, i);
        return trouble != NONE ? trouble : rows.at(row, i) + PLACE_BASE;
    }

    public int copy(int from, int i, int to, int j, int n) {
        if (!isRow(from) || !isRow(to)) {
            return UNKNOWN;
        }
        if (rows.isMissing(from) || rows.isMissing(to)) {
            return NULL;
        }
        if (n < 0) {
            return SIZE;
        }
        if (rows.sortOf(from) != rows.sortOf(to)) {
            return CAST;
        }
        if (!rows.hasPlaces(from, i, n) || !rows.hasPlaces(to, j, n)) {
            return INDEX;
        }
        rows.move(from, i, to, j, n);
        return n;
    }

    public int append(int row, int other) {
        if (!isRow(row) || !isRow(other)) {
            return UNKNOWN;
        }
        if (rows.isMissing(row) || rows.isMissing(other)) {
            return NULL;
        }
        if (rows.sizeOf(row) + rows.sizeOf(other) > MOST_PLACES) {
            return ROOM;
        }
        rows.extend(row, other);
        return rows.sizeOf(row);
    }

    public int load(int row, int node) {
        if (!isRow(row) || !nodes.has(node)) {
            return UNKNOWN;
        }
        if (rows.isMissing(row)) {
            return NULL;
        }
        if (rows.sortOf(row) != Rows.INTS) {
            return CAST;
        }
        int axes = nodes.axesOf(node);
        if (axes > rows.sizeOf(row)) {
            return INDEX;
        }
        solveNow();
        for (int axis = 0; axis < axes; axis++) {
            int value = solver.valueOf(nodes.at(node, axis));
            rows.put(row, axis, value < LETTER ? value : -1);
        }
        return axes;
    }

    public int sum(int row) {
        if (!isRow(row)) {
            return UNKNOWN;
        }
        return rows.isMissing(row) ? NULL : rows.total(row) + SUM_BASE;
    }

    public int drop(int row) {
        if (!isRow(row)) {
            return UNKNOWN;
        }
        if (rows.isMissing(row)) {
            return NULL;
        }
        int had = rows.sizeOf(row);
        rows.remove(row);
        return had;
    }

    public int count(int what) {
        switch (what) {
            case 0:
                return nodes.size();
            case 1:
                return given.bits();
            case 2:
                return shapesSeen.size();
            case 3:
                return rows.allPlaces();
            case 4:
                return given.undoable();
            case 5:
                return text.length();
            case 6:
                return nodes.toldLetters();
            default:
                return OUTSIDE;
        }
    }

    // ---- what the calls above share

    private void forgetSolved() {
        solved = false;
        counted = false;
    }

    private void solveNow() {
        if (!solved) {
            solver.solve(given.numbers());
            solved = true;
        }
    }

    private void countNow() {
        if (counted) {
            return;
        }
        solveNow();
        if (solver.hasFailed()) {
            found.findNone(solver.openLetters());
        } else {
            found.find(solver.openLetters(), given.numbers());
        }
        counted = true;
    }

    /** The least digit that mends all, told at this axis; NONE. */
    private int mendingDigit(int node, int axis) {
        for (int digit = 0; digit <= MOST_DIGIT; digit++) {
            trial.takeAll(nodes);
            trial.tellInstead(node, axis, digit);
            trialSolver.solve(given.numbers());
            if (!trialSolver.hasFailed()) {
                return digit;
            }
        }
        return NONE;
    }

    private static boolean isVerb(int kind, int asked) {
        if (kind <= SHAPE || kind >= FORM) {
            return false;
        }
        int over = kind;
        // No kind has more kinds above it than there are kinds.
        for (int step = 0; step <= RAVEL && over > 0; step++) {
            if (over == asked) {
                return true;
            }
            over = ABOVE[over];
        }
        return asked == 0;
    }

    private static boolean isPlain(int letter) {
        return letter >= 0 && letter < PLAIN;
    }

    private static boolean isRow(int row) {
        return row >= 0 && row < ROWS;
    }

    private static boolean isSort(int sort) {
        return sort == Rows.INTS || sort == Rows.SHORTS;
    }

    private static int commonDivisor(int a, int b) {
        int x = a;
        int y = b;
        // Two steps at least halve the greater one, so this is far more than an int needs.
        for (int step = 0; step < 100 && y != 0; step++) {
            int rest = x % y;
            x = y;
            y = rest;
        }
        return x;
    }

    /** THE TEXT, and how it is read, token by token, into nodes. */
    private static final class Text {
        private static final int END = 0, WORD = 1, NUMBER = 2, SIGN = 3;

        private final char[] letters = new char[MOST_LETTERS];
        private int length;
        private int clauses;
        // The token that is looked at: it reaches from start to next.
        private int sort;
        private int start;
        private int next;
        // What the clause that is looked at has told so far.
        private int first;
        private int second;
        private int rank;

        boolean add(int letter) {
            if (length >= MOST_LETTERS) {
                return false;
            }
            letters[length] = (char) letter;
            length++;
            return true;
        }

        int length() {
            return length;
        }

        void clear() {
            length = 0;
        }

        int clausesRead() {
            return clauses;
        }

        /** Reads all into these nodes: the place of the fault, or NONE. */
        int read(Nodes into) {
            next = 0;
            clauses = 0;
            step();
            for (int clause = 1; clause <= MOST_CLAUSES; clause++) {
                int place = readClause(into);
                if (place != NONE) {
                    return place;
                }
                clauses = clause;
                if (sort == END) {
                    return NONE;
                }
                if (!isSign(';') || clause == MOST_CLAUSES) {
                    return start;
                }
                step();
            }
            return start;
        }

        private int readClause(Nodes into) {
            int word = start;
            int kind = kindOfWord();
            if (kind == NONE) {
                return word;
            }
            if (kind == ANEW) {
                into.clear();
                step();
                return NONE;
            }
            if (into.size() >= MOST_NODES) {
                return word;
            }
            step();
            if (!readArguments(kind, into.size())) {
                return start;
            }
            if (into.axesOfVerb(kind, first, second, rank) > MOST_AXES) {
                return word;
            }
            into.add(kind, first, second, rank);
            if (kind == SHAPE || kind == FORM) {
                readExtents(into);
            }
            return NONE;
        }

        /** Reads M, N and R as far as the kind has them; if it can't, the fault is at the token looked at. */
        private boolean readArguments(int kind, int told) {
            first = NONE;
            second = NONE;
            rank = NO_RANK;
            if (kind == SHAPE) {
                return true;
            }
            if (!isNumber(0, told - 1)) {
                return false;
            }
            first = numberHere();
            step();
            if (kind == EACH || kind == JOIN) {
                if (!isNumber(0, told - 1)) {
                    return false;
                }
                second = numberHere();
                step();
            }
            return kind == FORM || readRank();
        }

        private boolean readRank() {
            boolean minus = isSign('-');
            if (minus) {
                step();
            }
            if (!isNumber(minus ? 1 : 0, MOST_RANK)) {
                return false;
            }
            rank = minus ? -numberHere() : numberHere();
            step();
            return true;
        }

        /** Stops at the first token that is no extent: whether it may stand there is seen at the clause's end. */
        private void readExtents(Nodes into) {
            for (int told = 0; told < MOST_TOLD; told++) {
                if (isNumber(0, MOST_DIGIT)) {
                    into.tell(numberHere());
                } else if (isPlainLetter()) {
                    into.tell(LETTER + letters[start] - 'u');
                } else {
                    return;
                }
                step();
            }
        }

        private void step() {
            while (next < length && letters[next] == ' ') {
                next++;
            }
            start = next;
            if (next >= length) {
                sort = END;
                return;
            }
            sort = sortOf(letters[next]);
            next++;
            while (sort != SIGN && next < length && sortOf(letters[next]) == sort) {
                next++;
            }
        }

        private static int sortOf(char letter) {
            if (letter >= 'a' && letter <= 'z') {
                return WORD;
            }
            return letter >= '0' && letter <= '9' ? NUMBER : SIGN;
        }

        private boolean isSign(char sign) {
            return sort == SIGN && letters[start] == sign;
        }

        private boolean isPlainLetter() {
            return sort == WORD && next - start == 1 && letters[start] >= 'u' && letters[start] <= 'x';
        }

        private boolean isNumber(int least, int most) {
            if (sort != NUMBER || next - start > 2) {
                return false;
            }
            int number = numberHere();
            return number >= least && number <= most;
        }

        private int numberHere() {
            int number = 0;
            for (int i = start; i < next; i++) {
                number = number * 10 + (letters[i] - '0');
            }
            return number;
        }

        private int kindOfWord() {
            if (sort != WORD) {
                return NONE;
            }
            for (int kind = SHAPE; kind <= ANEW; kind++) {
                if (isWord(wordOf(kind))) {
                    return kind;
                }
            }
            return NONE;
        }

        private boolean isWord(String word) {
            if (word.length() != next - start) {
                return false;
            }
            for (int i = 0; i < word.length(); i++) {
                if (word.charAt(i) != letters[start + i]) {
                    return false;
                }
            }
            return true;
        }

        private static String wordOf(int kind) {
            switch (kind) {
                case SHAPE:
                    return "shape";
                case EACH:
                    return "each";
                case JOIN:
                    return "join";
                case TURN:
                    return "turn";
                case FOLD:
                    return "fold";
                case RAVEL:
                    return "ravel";
                case FORM:
                    return "form";
                default:
                    return "program";
            }
        }
    }

    /** The nodes, each with its shape in extents as they were told: numbers, or letters from LETTER on. */
    private static final class Nodes {
        private final int[] kind = new int[MOST_NODES];
        private final int[] first = new int[MOST_NODES];
        private final int[] second = new int[MOST_NODES];
        private final int[] rank = new int[MOST_NODES];
        private final int[] axes = new int[MOST_NODES];
        private final int[] extents = new int[MOST_NODES * MOST_AXES];
        private int size;

        void clear() {
            size = 0;
        }

        void takeAll(Nodes other) {
            size = other.size;
            System.arraycopy(other.kind, 0, kind, 0, MOST_NODES);
            System.arraycopy(other.first, 0, first, 0, MOST_NODES);
            System.arraycopy(other.second, 0, second, 0, MOST_NODES);
            System.arraycopy(other.rank, 0, rank, 0, MOST_NODES);
            System.arraycopy(other.axes, 0, axes, 0, MOST_NODES);
            System.arraycopy(other.extents, 0, extents, 0, MOST_NODES * MOST_AXES);
        }

        int size() {
            return size;
        }

        boolean has(int node) {
            return node >= 0 && node < size;
        }

        int kindOf(int node) {
            return kind[node];
        }

        int axesOf(int node) {
            return axes[node];
        }

        int firstOf(int node) {
            return first[node];
        }

        int secondOf(int node) {
            return second[node];
        }

        int rankOf(int node) {
            return rank[node];
        }

        int at(int node, int axis) {
            return extents[node * MOST_AXES + axis];
        }

        /** The first extent of a cell behind so many axes; a cell without extents counts as one of the extent 1. */
        int joinedAt(int node, int frame) {
            return frame < axes[node] ? extents[node * MOST_AXES + frame] : 1;
        }

        boolean isTold(int node) {
            return kind[node] == SHAPE || kind[node] == FORM;
        }

        boolean hasOwnLetter(int letter) {
            int node = letter - PLAIN;
            return letter >= PLAIN && has(node) && (kind[node] == JOIN || kind[node] == RAVEL);
        }

        int toldLetters() {
            int bits = 0;
            for (int node = 0; node < size; node++) {
                for (int axis = 0; isTold(node) && axis < axes[node]; axis++) {
                    if (at(node, axis) >= LETTER) {
                        bits |= 1 << (at(node, axis) - LETTER);
                    }
                }
            }
            return bits;
        }

        /** How many of a node's axes a rank puts into the frame. */
        int frameOf(int node, int byRank) {
            int all = axes[node];
            if (byRank < 0) {
                return all < -byRank ? all : -byRank;
            }
            return all > byRank ? all - byRank : 0;
        }

        int cellOf(int node, int byRank) {
            return axes[node] - frameOf(node, byRank);
        }

        /** How many axes a node with these arguments would get; none yet, if they are told after it is made. */
        int axesOfVerb(int verb, int m, int n, int r) {
            switch (verb) {
                case EACH:
                    return Math.max(frameOf(m, r), frameOf(n, r)) + Math.max(cellOf(m, r), cellOf(n, r));
                case JOIN:
                    // A cell without extents counts as one, so that there is always an axis to join along.
                    return Math.max(frameOf(m, r), frameOf(n, r))
                        + Math.max(1, Math.max(cellOf(m, r), cellOf(n, r)));
                case TURN:
                    return axes[m];
                case FOLD:
                    return frameOf(m, r) + Math.max(0, cellOf(m, r) - 1);
                case RAVEL:
                    return frameOf(m, r) + 1;
                default:
                    return 0;
            }
        }

        void add(int newKind, int m, int n, int r) {
            if (size >= MOST_NODES) {
                return;
            }
            kind[size] = newKind;
            first[size] = m;
            second[size] = n;
            rank[size] = r;
            axes[size] = axesOfVerb(newKind, m, n, r);
            derive(size);
            size++;
        }

        /** One extent more of the latest node. */
        void tell(int value) {
            int node = size - 1;
            if (node < 0 || axes[node] >= MOST_TOLD) {
                return;
            }
            putOne(node, axes[node], value);
            axes[node]++;
        }

        void tellInstead(int node, int axis, int value) {
            putOne(node, axis, value);
            // Verbs hold their arguments' extents, so the change must reach all that come after.
            for (int later = node + 1; later < size; later++) {
                derive(later);
            }
        }

        private void derive(int node) {
            int m = first[node];
            switch (kind[node]) {
                case EACH:
                    putLongerCell(node, putLongerFrame(node), 0);
                    break;
                case JOIN:
                    putLongerCell(node, putOne(node, putLongerFrame(node), ownLetter(node)), 1);
                    break;
                case TURN:
                    putPart(node, 0, m, 0);
                    break;
                case FOLD:
                    putPart(node, putFrame(node, m), m, frameOf(m, rank[node]) + 1);
                    break;
                case RAVEL:
                    putOne(node, putFrame(node, m), ownLetter(node));
                    break;
                default:
                    break;
            }
        }

        static int ownLetter(int node) {
            return LETTER + PLAIN + node;
        }

        private int putLongerFrame(int node) {
            int m = first[node];
            int n = second[node];
            return putFrame(node, frameOf(n, rank[node]) > frameOf(m, rank[node]) ? n : m);
        }

        private int putFrame(int node, int source) {
            int frame = frameOf(source, rank[node]);
            for (int axis = 0; axis < frame; axis++) {
                putOne(node, axis, at(source, axis));
            }
            return frame;
        }

        private void putLongerCell(int node, int to, int without) {
            int m = first[node];
            int n = second[node];
            int longer = cellOf(n, rank[node]) > cellOf(m, rank[node]) ? n : m;
            putPart(node, to, longer, frameOf(longer, rank[node]) + without);
        }

        private void putPart(int node, int to, int source, int from) {
            for (int axis = from; axis < axes[source]; axis++) {
                putOne(node, to + axis - from, at(source, axis));
            }
        }

        private int putOne(int node, int axis, int value) {
            if (axis >= 0 && axis < MOST_AXES) {
                extents[node * MOST_AXES + axis] = value;
            }
            return axis + 1;
        }
    }

    /** The two sides of a SUM or a PRODUCT, as far as they are numbers, and the letters left in them. */
    private static final class Sides {
        // By which number a letter makes both sides alike: by none, or by any (or there is no letter to ask for).
        static final int BY_NONE = -1, BY_ANY = -2;

        private final long[] sums = new long[2];
        private final long[] products = new long[2];
        private int letters;
        private int letter;
        private int letterSide;
        private int bits;

        void clear() {
            for (int side = 0; side < 2; side++) {
                sums[side] = 0;
                products[side] = 1;
            }
            letters = 0;
            letter = 0;
            letterSide = 0;
            bits = 0;
        }

        void add(int side, int value) {
            if (value >= LETTER) {
                letters++;
                letter = value - LETTER;
                letterSide = side;
                bits |= 1 << letter;
                return;
            }
            sums[side] += value;
            // Once too great, only a nought can change that; so it needs no greater numbers than these.
            if (value == 0) {
                products[side] = 0;
            } else if (products[side] <= MOST_PRODUCT) {
                products[side] *= value;
            }
        }

        /** How many places hold a letter: two that are alike are two, since neither can be found by the other. */
        int letters() {
            return letters;
        }

        int latestLetter() {
            return letter;
        }

        int letterBits() {
            return bits;
        }

        boolean isTooGreat() {
            return products[0] > MOST_PRODUCT || products[1] > MOST_PRODUCT;
        }

        long missingAddend() {
            if (letters == 0) {
                return sums[0] == sums[1] ? BY_ANY : BY_NONE;
            }
            long missing = sums[1 - letterSide] - sums[letterSide];
            return missing < 0 || missing > MOST_EXTENT ? BY_NONE : missing;
        }

        long missingFactor() {
            long goal = products[1 - letterSide];
            long rest = products[letterSide];
            if (goal > MOST_PRODUCT || rest > MOST_PRODUCT) {
                return BY_NONE;
            }
            if (letters == 0 || rest == 0) {
                return goal == rest ? BY_ANY : BY_NONE;
            }
            return goal % rest != 0 || goal / rest > MOST_EXTENT ? BY_NONE : goal / rest;
        }
    }

    /** What the letters are, by all that must hold of the nodes, and what fails first. */
    private static final class Solver {
        private final Nodes nodes;
        private final Sides sides = new Sides();
        // Of each letter the least one that it is alike; of that one the number, or NONE.
        private final int[] least = new int[LETTERS];
        private final int[] number = new int[LETTERS];
        private final int[] numberMet = new int[LETTERS];
        private final int[] fail = new int[FAIL_PARTS];
        private boolean tooGreat;

        Solver(Nodes ofThese) {
            nodes = ofThese;
        }

        void solve(int[] given) {
            meetAll(given);
            settle();
        }

        boolean hasFailed() {
            return fail[0] != NONE;
        }

        /** Whether it failed since a product was too great to go on with. */
        boolean hasTooGreat() {
            return tooGreat;
        }

        int failPart(int what) {
            return fail[what];
        }

        int valueOf(int extent) {
            if (extent < LETTER) {
                return extent;
            }
            int one = least[extent - LETTER];
            return number[one] == NONE ? LETTER + one : number[one];
        }

        int openLetters() {
            int bits = 0;
            for (int node = 0; node < nodes.size(); node++) {
                for (int axis = 0; nodes.isTold(node) && axis < nodes.axesOf(node); axis++) {
                    int value = valueOf(nodes.at(node, axis));
                    if (value >= LETTER) {
                        bits |= 1 << (value - LETTER);
                    }
                }
            }
            return bits;
        }

        /** The first half of solving: all that must be equal. */
        void meetAll(int[] given) {
            clearFail();
            for (int letter = 0; letter < LETTERS; letter++) {
                least[letter] = letter;
                number[letter] = letter < PLAIN ? given[letter] : NONE;
            }
            for (int node = 0; node < nodes.size() && !hasFailed(); node++) {
                int kind = nodes.kindOf(node);
                if (kind == EACH || kind == JOIN) {
                    meetFrames(node);
                    // What a join puts one behind the other need not be equal.
                    meetCells(node, kind == JOIN ? 1 : 0);
                }
            }
            System.arraycopy(number, 0, numberMet, 0, LETTERS);
        }

        /** The second half anew, behind meetAll(), these letters (none of them is alike another) being given, too. */
        void settleWith(int[] chosen) {
            clearFail();
            System.arraycopy(numberMet, 0, number, 0, LETTERS);
            for (int letter = 0; letter < PLAIN; letter++) {
                if (chosen[letter] != NONE) {
                    number[letter] = chosen[letter];
                }
            }
            settle();
        }

        /** The letters that are no numbers yet and are in some sum or product. */
        int lettersInEquations() {
            int bits = 0;
            for (int node = 0; node < nodes.size(); node++) {
                if (gatherSides(node)) {
                    bits |= sides.letterBits();
                }
            }
            return bits;
        }

        private void clearFail() {
            tooGreat = false;
            for (int part = 0; part < FAIL_PARTS; part++) {
                fail[part] = NONE;
            }
        }

        private void failAt(int node, int by, int axis, int one, int other) {
            fail[0] = node;
            fail[1] = by;
            fail[2] = axis;
            fail[3] = one;
            fail[4] = other;
        }

        private void meetFrames(int node) {
            int m = nodes.firstOf(node);
            int n = nodes.secondOf(node);
            int rank = nodes.rankOf(node);
            int both = Math.min(nodes.frameOf(m, rank), nodes.frameOf(n, rank));
            for (int axis = 0; axis < both && !hasFailed(); axis++) {
                meet(nodes.at(m, axis), nodes.at(n, axis), node, BY_FRAMES, axis);
            }
        }

        private void meetCells(int node, int from) {
            int m = nodes.firstOf(node);
            int n = nodes.secondOf(node);
            int rank = nodes.rankOf(node);
            int both = Math.min(nodes.cellOf(m, rank), nodes.cellOf(n, rank));
            int startM = nodes.frameOf(m, rank);
            int startN = nodes.frameOf(n, rank);
            for (int axis = from; axis < both && !hasFailed(); axis++) {
                meet(nodes.at(m, startM + axis), nodes.at(n, startN + axis), node, BY_CELLS, axis);
            }
        }

        private void meet(int one, int other, int node, int by, int axis) {
            int x = valueOf(one);
            int y = valueOf(other);
            if (x < LETTER && y < LETTER) {
                if (x != y) {
                    failAt(node, by, axis, x, y);
                }
            } else if (x < LETTER) {
                number[y - LETTER] = x;
            } else if (y < LETTER) {
                number[x - LETTER] = y;
            } else {
                makeAlike(Math.min(x, y) - LETTER, Math.max(x, y) - LETTER);
            }
        }

        private void makeAlike(int low, int high) {
            for (int letter = 0; letter < LETTERS; letter++) {
                if (least[letter] == high) {
                    least[letter] = low;
                }
            }
        }

        private void settle() {
            boolean more = !hasFailed();
            // A round that finds no letter is the last, so there are no more rounds than letters and one.
            for (int round = 0; round <= LETTERS && more; round++) {
                boolean passedBy = false;
                boolean oneFound = false;
                for (int node = 0; node < nodes.size() && !hasFailed(); node++) {
                    if (!gatherSides(node)) {
                        continue;
                    }
                    if (sides.letters() > 1) {
                        passedBy = true;
                    } else if (settleOne(node)) {
                        oneFound = true;
                    }
                }
                // What holds goes on to hold, so another round is only for those that were passed by.
                more = oneFound && passedBy && !hasFailed();
            }
        }

        /** Gathers both sides of a node's sum or product; false: it has none. */
        private boolean gatherSides(int node) {
            int kind = nodes.kindOf(node);
            if (kind != JOIN && kind != RAVEL && kind != FORM) {
                return false;
            }
            int m = nodes.firstOf(node);
            int rank = nodes.rankOf(node);
            sides.clear();
            if (kind == JOIN) {
                sides.add(0, valueOf(Nodes.ownLetter(node)));
                int n = nodes.secondOf(node);
                sides.add(1, valueOf(nodes.joinedAt(m, nodes.frameOf(m, rank))));
                sides.add(1, valueOf(nodes.joinedAt(n, nodes.frameOf(n, rank))));
                return true;
            }
            // A ravel keeps its frame and has one letter behind it, for all that is behind it in the argument.
            int from = kind == RAVEL ? nodes.frameOf(m, rank) : 0;
            for (int axis = from; axis < nodes.axesOf(node); axis++) {
                sides.add(0, valueOf(nodes.at(node, axis)));
            }
            for (int axis = from; axis < nodes.axesOf(m); axis++) {
                sides.add(1, valueOf(nodes.at(m, axis)));
            }
            return true;
        }

        /** Whether the one letter became a number, by the sides that are gathered; they have no second one. */
        private boolean settleOne(int node) {
            boolean isSum = nodes.kindOf(node) == JOIN;
            long missing = isSum ? sides.missingAddend() : sides.missingFactor();
            if (missing == Sides.BY_NONE) {
                tooGreat = !isSum && sides.isTooGreat();
                failAt(node, isSum ? BY_SUM : BY_PRODUCT, 0, 0, 0);
                return false;
            }
            if (missing == Sides.BY_ANY) {
                return false;
            }
            number[sides.latestLetter()] = (int) missing;
            return true;
        }
    }

    /** The ways in which the open letters can be given numbers, and the first of them. */
    private static final class Ways {
        private final Solver solver;
        private final int[] chosen = new int[PLAIN];
        private final int[] firstWay = new int[PLAIN];
        private int open;
        private int inEquations;
        private int ways;

        Ways(Solver ownSolver) {
            solver = ownSolver;
        }

        int howMany() {
            return ways;
        }

        /** In how many ways they could be, if nothing could fail. */
        int howManyAtMost() {
            int most = 1;
            for (int letter = 0; letter < PLAIN; letter++) {
                most *= isOpen(letter) ? DIGITS : 1;
            }
            return most;
        }

        boolean isOpen(int letter) {
            return (open >> letter & 1) == 1;
        }

        int firstOf(int letter) {
            return firstWay[letter];
        }

        void find(int openLetters, int[] given) {
            findNone(openLetters);
            solver.meetAll(given);
            inEquations = solver.lettersInEquations();
            ways = waysFrom(0, 0);
        }

        void findNone(int openLetters) {
            open = openLetters;
            ways = 0;
            Arrays.fill(chosen, NONE);
            Arrays.fill(firstWay, NONE);
        }

        /**
         * The ways of the letters from this one on, the lesser ones being chosen; so many were found ahead.
         * A letter that no sum or product has can be any number. Where the lesser ones alone fail, all that
         * is chosen behind them fails, too, and where they make this letter a number, it can be no other;
         * but what failed by too great a product may yet hold with a nought in it, so then all are tried.
         */
        private int waysFrom(int letter, int ahead) {
            if (letter >= PLAIN) {
                solver.settleWith(chosen);
                return waysAsSettled(ahead);
            }
            if (!isOpen(letter)) {
                return waysFrom(letter + 1, ahead);
            }
            if ((inEquations >> letter & 1) == 0) {
                chosen[letter] = 0;
                int others = waysFrom(letter + 1, ahead);
                chosen[letter] = NONE;
                return others * DIGITS;
            }
            solver.settleWith(chosen);
            if (solver.hasFailed() && !solver.hasTooGreat()) {
                return 0;
            }
            int only = solver.hasFailed() ? LETTER : solver.valueOf(LETTER + letter);
            int low = only < LETTER ? only : 0;
            int high = only < LETTER ? Math.min(only, MOST_DIGIT) : MOST_DIGIT;
            int here = 0;
            for (int digit = low; digit <= high; digit++) {
                chosen[letter] = digit;
                here += waysFrom(letter + 1, ahead + here);
            }
            chosen[letter] = NONE;
            return here;
        }

        private int waysAsSettled(int ahead) {
            if (solver.hasFailed()) {
                return 0;
            }
            if (ahead == 0) {
                System.arraycopy(chosen, 0, firstWay, 0, PLAIN);
            }
            return 1;
        }
    }

    /** The numbers that the letters u to x are given, how to undo that, and what was kept of it. */
    private static final class Given {
        private final int[] numbers = new int[PLAIN];
        private final int[] undoLetter = new int[MOST_UNDONE];
        private final int[] undoNumber = new int[MOST_UNDONE];
        private final int[] stored = new int[MOST_KEPT * PLAIN];
        private final boolean[] isStored = new boolean[MOST_KEPT];
        private int undoable;

        Given() {
            Arrays.fill(numbers, NONE);
        }

        void clear() {
            Arrays.fill(numbers, NONE);
            undoable = 0;
            for (int k = 0; k < MOST_KEPT; k++) {
                isStored[k] = false;
            }
        }

        int[] numbers() {
            return numbers;
        }

        int numberOf(int letter) {
            return numbers[letter];
        }

        int howMany() {
            return Integer.bitCount(bits());
        }

        int bits() {
            int bits = 0;
            for (int letter = 0; letter < PLAIN; letter++) {
                bits |= numbers[letter] == NONE ? 0 : 1 << letter;
            }
            return bits;
        }

        int undoable() {
            return undoable;
        }

        void change(int letter, int to) {
            if (undoable >= MOST_UNDONE) {
                System.arraycopy(undoLetter, 1, undoLetter, 0, MOST_UNDONE - 1);
                System.arraycopy(undoNumber, 1, undoNumber, 0, MOST_UNDONE - 1);
                undoable = MOST_UNDONE - 1;
            }
            undoLetter[undoable] = letter;
            undoNumber[undoable] = numbers[letter];
            undoable++;
            numbers[letter] = to;
        }

        void takeBack() {
            if (undoable > 0) {
                undoable--;
                numbers[undoLetter[undoable]] = undoNumber[undoable];
            }
        }

        void store(int k) {
            System.arraycopy(numbers, 0, stored, k * PLAIN, PLAIN);
            isStored[k] = true;
        }

        boolean isStored(int k) {
            return isStored[k];
        }

        void restore(int k) {
            System.arraycopy(stored, k * PLAIN, numbers, 0, PLAIN);
            undoable = 0;
        }
    }

    /** The shapes that a verb of unknown kind was seen to give. */
    private static final class Seen {
        // An extent that no shape with an axis has: the shape without one, and one that fits no kind.
        private static final int NO_AXIS = -1, FITS_NONE = -2;

        private final int[] asked = new int[MOST_SEEN];
        private final int[] answered = new int[MOST_SEEN];
        private int size;

        int size() {
            return size;
        }

        void clear() {
            size = 0;
        }

        boolean add(int n, int axes, int m) {
            if (size >= MOST_SEEN) {
                return false;
            }
            asked[size] = n;
            answered[size] = axes == 1 ? m : m == 0 ? NO_AXIS : FITS_NONE;
            size++;
            return true;
        }

        int kindsThatFit() {
            int bits = 0;
            for (int kind = EACH; kind <= RAVEL; kind++) {
                bits |= fitsAll(kind) ? 1 << kind : 0;
            }
            return bits;
        }

        private boolean fitsAll(int kind) {
            for (int i = 0; i < size; i++) {
                if (wouldAnswer(kind, asked[i]) != answered[i]) {
                    return false;
                }
            }
            return true;
        }

        /** Rank 3 takes the one axis as the cell, so that there is no frame. */
        private static int wouldAnswer(int kind, int n) {
            if (kind == FOLD) {
                return NO_AXIS;
            }
            return kind == JOIN ? n + n : n;
        }

        int bestToAsk() {
            int fitting = kindsThatFit();
            int best = NONE;
            int bestPart = Integer.bitCount(fitting);
            for (int n = 1; n <= MOST_DIGIT; n++) {
                int part = greatestPart(fitting, n);
                if (part < bestPart) {
                    best = n;
                    bestPart = part;
                }
            }
            return best;
        }

        private static int greatestPart(int fitting, int n) {
            int greatest = 0;
            for (int kind = EACH; kind <= RAVEL; kind++) {
                int part = 0;
                for (int other = EACH; other <= RAVEL; other++) {
                    boolean both = (fitting >> kind & fitting >> other & 1) == 1;
                    part += both && wouldAnswer(kind, n) == wouldAnswer(other, n) ? 1 : 0;
                }
                greatest = Math.max(greatest, part);
            }
            return greatest;
        }
    }

    /** The rows, each missing or with a sort and its places. */
    private static final class Rows {
        static final int INTS = 0, SHORTS = 1;
        private static final int MISSING = -1;

        // What may be put into a row fits a short, so rows of either sort can lie in ints.
        private final int[] places = new int[ROWS * MOST_PLACES];
        private final int[] sizes = new int[ROWS];
        private final int[] sorts = new int[ROWS];

        Rows() {
            Arrays.fill(sizes, MISSING);
        }

        void clear() {
            Arrays.fill(sizes, MISSING);
        }

        void make(int row, int sort, int n) {
            sizes[row] = n;
            sorts[row] = sort;
            Arrays.fill(places, row * MOST_PLACES, (row + 1) * MOST_PLACES, 0);
        }

        void remove(int row) {
            sizes[row] = MISSING;
        }

        boolean isMissing(int row) {
            return sizes[row] == MISSING;
        }

        int sizeOf(int row) {
            return sizes[row];
        }

        int sortOf(int row) {
            return sorts[row];
        }

        /** Why there is no place i of that sort, the first reason first; NONE: there is one. */
        int placeTrouble(int row, int sort, int i) {
            if (isMissing(row)) {
                return NULL;
            }
            if (sorts[row] != sort) {
                return CAST;
            }
            return i < 0 || i >= sizes[row] ? INDEX : NONE;
        }

        /** Written without a sum, which could be greater than an int. */
        boolean hasPlaces(int row, int from, int n) {
            return from >= 0 && from <= sizes[row] && n <= sizes[row] - from;
        }

        int at(int row, int i) {
            return places[row * MOST_PLACES + i];
        }

        void put(int row, int i, int v) {
            places[row * MOST_PLACES + i] = v;
        }

        void move(int from, int i, int to, int j, int n) {
            System.arraycopy(places, from * MOST_PLACES + i, places, to * MOST_PLACES + j, n);
        }

        void extend(int row, int other) {
            int added = sizes[other];
            move(other, 0, row, sizes[row], added);
            sizes[row] += added;
        }

        int total(int row) {
            int all = 0;
            for (int i = 0; i < sizes[row]; i++) {
                all += at(row, i);
            }
            return all;
        }

        int allPlaces() {
            int all = 0;
            for (int row = 0; row < ROWS; row++) {
                all += isMissing(row) ? 0 : sizes[row];
            }
            return all;
        }
    }
}
