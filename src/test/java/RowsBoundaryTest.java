/** The boundary cases of ROWS and what is counted: promises 25 to 33 and section 4, sentence by sentence. */
public final class RowsBoundaryTest {
    private static final int UNKNOWN = ShapeFrames.UNKNOWN, OUTSIDE = ShapeFrames.OUTSIDE, NULL = ShapeFrames.NULL,
        SIZE = ShapeFrames.SIZE, CAST = ShapeFrames.CAST, INDEX = ShapeFrames.INDEX, ROOM = ShapeFrames.ROOM;
    private static final int LEAST = Integer.MIN_VALUE, MOST = Integer.MAX_VALUE;
    private static final int[] ROWS = {LEAST, -1, 0, 1, 2, 3, MOST};
    private static final int[] SORTS = {LEAST, -1, 0, 1, 2, MOST};
    private static final int[] PLACES = {LEAST, -1, 0, 1, 3, 4, 9, 10, 11, MOST};
    private static final int[] NUMBERS = {LEAST, -10000, -9999, 0, 9999, 10000, MOST};
    // What the rows of a prepared object are: sort and size, a size of -1 being a missing one.
    private static final int[][] STATES = {
        {0, 4, 1, 4, 0, -1}, {0, 0, 0, 10, 1, 10}, {1, -1, 0, 1, 1, 0}, {0, 5, 1, 5, 0, 6}, {1, 3, 1, 7, 1, 8}};
    private static final Check check = new Check("RowsBoundaryTest");

    public static void main(String[] args) {
        rowsAreMissingAtFirst();
        newRows();
        setAndGet();
        copies();
        copiesAsIfTakenAhead();
        appended();
        loaded();
        loadedNumbers();
        summed();
        dropped();
        counted();
        check.end();
    }

    private static ShapeFrames prepared(int[] state) {
        ShapeFrames x = new ShapeFrames();
        for (int row = 0; row < 3; row++) {
            if (state[2 * row + 1] >= 0) {
                x.row(row, state[2 * row], state[2 * row + 1]);
                for (int i = 0; i < state[2 * row + 1]; i++) {
                    x.set(row, state[2 * row], i, 1000 * (row + 1) + i);
                }
            }
        }
        return x;
    }

    /** Whether the rows are as they were prepared. */
    private static void unchanged(ShapeFrames x, int[] state) {
        for (int row = 0; row < 3; row++) {
            int size = state[2 * row + 1];
            int sort = state[2 * row];
            check.due("get() behind the last place", x.get(row, sort, Math.max(0, size)), size < 0 ? NULL : INDEX);
            for (int i = 0; i < size; i++) {
                check.due("get(" + row + ", " + sort + ", " + i + ")", x.get(row, sort, i), 51000 + 1000 * row + i);
            }
        }
    }

    private static boolean isRow(int row) {
        return row >= 0 && row <= 2;
    }

    private static void rowsAreMissingAtFirst() {
        check.says("ROWS 0 .. 2 are missing (at first), or rows of 0 to 10 ints, or of shorts.");
        for (int row : ROWS) {
            int want = isRow(row) ? NULL : UNKNOWN;
            ShapeFrames x = check.told("shape");
            check.due("get(" + row + ", 0, 0)", x.get(row, 0, 0), want);
            check.due("get(" + row + ", 1, 0)", x.get(row, 1, 0), want);
            check.due("set(" + row + ", 0, 0, 0)", x.set(row, 0, 0, 0), want);
            check.due("copy() from " + row, x.copy(row, 0, row, 0, 0), want);
            check.due("append(" + row + ")", x.append(row, row), want);
            check.due("load(" + row + ", 0)", x.load(row, 0), want);
            check.due("sum(" + row + ")", x.sum(row), want);
            check.due("drop(" + row + ")", x.drop(row), want);
            check.due("count(3)", x.count(3), 0);
        }
    }

    private static void newRows() {
        check.says("A ROW is a new one of n noughts (10 at most), of ints (sort 0), of shorts (1): n. UNKNOWN; OUTSIDE (sort; n above 10); SIZE.");
        int[] sizes = {LEAST, -10, -1, 0, 1, 9, 10, 11, 12, MOST};
        for (int row : ROWS) {
            for (int sort : SORTS) {
                for (int n : sizes) {
                    boolean sorted = sort == 0 || sort == 1;
                    int want = !isRow(row) ? UNKNOWN : !sorted || n > 10 ? OUTSIDE : n < 0 ? SIZE : n;
                    for (int[] state : STATES) {
                        oneNewRow(prepared(state), state, row, sort, n, want);
                    }
                }
            }
        }
    }

    private static void oneNewRow(ShapeFrames x, int[] state, int row, int sort, int n, int want) {
        check.due("row(" + row + ", " + sort + ", " + n + ")", x.row(row, sort, n), want);
        if (want < 0) {
            unchanged(x, state);
            return;
        }
        for (int i = 0; i < n; i++) {
            check.due("get(" + row + ", " + sort + ", " + i + ")", x.get(row, sort, i), 50000);
        }
        check.due("get() behind the last", x.get(row, sort, n), INDEX);
        check.due("get() as the other sort", x.get(row, 1 - sort, 0), CAST);
    }

    private static void setAndGet() {
        check.says("v (-9999 .. 9999) is at place i of a ROW, taken as one of a sort (0, 1): what was there, and 50000 more. UNKNOWN; OUTSIDE; NULL; CAST; INDEX.");
        check.says("What is at place i of a ROW, taken as one of a sort: that, and 50000 more. UNKNOWN; OUTSIDE; NULL; CAST; INDEX.");
        for (int[] state : STATES) {
            for (int row : ROWS) {
                for (int sort : SORTS) {
                    for (int i : PLACES) {
                        int get = dueOfPlace(state, row, sort, i);
                        ShapeFrames x = prepared(state);
                        check.due("get(" + row + ", " + sort + ", " + i + ")", x.get(row, sort, i), get);
                        unchanged(x, state);
                        for (int v : NUMBERS) {
                            oneSet(state, row, sort, i, v);
                        }
                    }
                }
            }
        }
    }

    private static int dueOfPlace(int[] state, int row, int sort, int i) {
        if (!isRow(row)) {
            return UNKNOWN;
        }
        if (sort != 0 && sort != 1) {
            return OUTSIDE;
        }
        int size = state[2 * row + 1];
        if (size < 0) {
            return NULL;
        }
        if (state[2 * row] != sort) {
            return CAST;
        }
        return i < 0 || i >= size ? INDEX : 51000 + 1000 * row + i;
    }

    private static void oneSet(int[] state, int row, int sort, int i, int v) {
        int want = dueOfPlace(state, row, sort, i);
        if (want != UNKNOWN && (v < -9999 || v > 9999)) {
            want = OUTSIDE;
        }
        ShapeFrames x = prepared(state);
        check.due("set(" + row + ", " + sort + ", " + i + ", " + v + ")", x.set(row, sort, i, v), want);
        if (want > 0) {
            check.due("set() of what was there", x.set(row, sort, i, want - 50000), 50000 + v);
        }
        unchanged(x, state);
    }

    private static void copies() {
        check.says("n places of a ROW from i on come to those of another one (or itself) from j on, as if taken ahead: n. UNKNOWN; NULL (either); SIZE (n); CAST: they are of unlike sorts; INDEX.");
        int[] sizes = {LEAST, -1, 0, 1, 4, 10, 11, MOST};
        int[] places = {LEAST, -1, 0, 1, 4, 5, 10, 11, MOST};
        for (int[] state : STATES) {
            for (int from = -1; from <= 3; from++) {
                for (int to = -1; to <= 3; to++) {
                    for (int n : sizes) {
                        for (int i : places) {
                            for (int j : places) {
                                oneCopy(state, new int[] {from, i, to, j, n});
                            }
                        }
                    }
                }
            }
        }
    }

    private static void oneCopy(int[] state, int[] a) {
        ShapeFrames x = prepared(state);
        int want = dueOfCopy(state, a);
        int got = x.copy(a[0], a[1], a[2], a[3], a[4]);
        check.due("copy(" + a[0] + ", " + a[1] + ", " + a[2] + ", " + a[3] + ", " + a[4] + ")", got, want);
        if (want <= 0) {
            unchanged(x, state);
            return;
        }
        for (int place = 0; place < state[2 * a[2] + 1]; place++) {
            boolean came = place >= a[3] && place < a[3] + a[4];
            int number = came ? 1000 * (a[0] + 1) + a[1] + place - a[3] : 1000 * (a[2] + 1) + place;
            check.due("get(" + a[2] + ", .., " + place + ")", x.get(a[2], state[2 * a[2]], place), 50000 + number);
        }
    }

    private static int dueOfCopy(int[] state, int[] a) {
        if (!isRow(a[0]) || !isRow(a[2])) {
            return UNKNOWN;
        }
        int from = state[2 * a[0] + 1];
        int to = state[2 * a[2] + 1];
        if (from < 0 || to < 0) {
            return NULL;
        }
        if (a[4] < 0) {
            return SIZE;
        }
        if (state[2 * a[0]] != state[2 * a[2]]) {
            return CAST;
        }
        boolean outOfFrom = a[1] < 0 || (long) a[1] + a[4] > from;
        boolean outOfTo = a[3] < 0 || (long) a[3] + a[4] > to;
        return outOfFrom || outOfTo ? INDEX : a[4];
    }

    private static void copiesAsIfTakenAhead() {
        check.says("(or itself) from j on, as if taken ahead: n.");
        for (int size = 0; size <= 10; size++) {
            for (int i = 0; i <= size; i++) {
                for (int j = 0; j <= size; j++) {
                    int n = size - Math.max(i, j);
                    oneCopy(new int[] {0, size, 1, -1, 1, size}, new int[] {0, i, 0, j, n});
                    oneCopy(new int[] {0, size, 1, -1, 1, size}, new int[] {2, i, 2, j, n});
                    oneCopy(new int[] {0, size, 1, -1, 1, size}, new int[] {0, i, 0, j, n + 1});
                }
            }
        }
    }

    private static void appended() {
        check.says("A ROW is what it was, and what another one (or itself) is behind it, of its own sort: how many places it has. UNKNOWN; NULL (either); ROOM.");
        for (int row = -1; row <= 3; row++) {
            for (int other = -1; other <= 3; other++) {
                for (int[] state : STATES) {
                    oneAppend(state, row, other);
                }
                for (int size = 0; size <= 10; size++) {
                    for (int more = -1; more <= 10; more++) {
                        oneAppend(new int[] {0, size, 1, more, 1, size}, row, other);
                    }
                }
            }
        }
    }

    private static void oneAppend(int[] state, int row, int other) {
        ShapeFrames x = prepared(state);
        boolean known = isRow(row) && isRow(other);
        int size = known ? state[2 * row + 1] : 0;
        int more = known ? state[2 * other + 1] : 0;
        int want = !known ? UNKNOWN : size < 0 || more < 0 ? NULL : size + more > 10 ? ROOM : size + more;
        check.due("append(" + row + ", " + other + ") of " + size + " and " + more, x.append(row, other), want);
        if (want < 0) {
            unchanged(x, state);
            return;
        }
        int sort = state[2 * row];
        for (int i = 0; i < want; i++) {
            int number = i < size ? 1000 * (row + 1) + i : 1000 * (other + 1) + i - size;
            check.due("get(" + row + ", " + sort + ", " + i + ")", x.get(row, sort, i), 50000 + number);
        }
        check.due("get() behind the last", x.get(row, sort, want), INDEX);
    }

    private static void loaded() {
        check.says("EXTENTS of a NODE's SHAPE (as of extent(), numbers alone; a LETTER as -1) come to a ROW, of ints, from place 0 on: how many. UNKNOWN; NULL; CAST; INDEX: it has not so many places.");
        // Node n has n extents, for n up to 6.
        String text = "shape;shape 2;shape 2 u;shape 2 2 0;join 3 3 0;ravel 4 0;join 5 5 0";
        int[][] want = {{}, {2}, {2, -1}, {2, 2, 0}, {2, 2, 0, 2}, {2, 2, 0, 2, 1}, {2, 2, 0, 2, 1, 2}};
        for (int node = -1; node <= 7; node++) {
            for (int size = -1; size <= 10; size++) {
                for (int sort = 0; sort <= 1; sort++) {
                    for (int row = -1; row <= 3; row++) {
                        ShapeFrames x = check.told(text);
                        if (size >= 0 && isRow(row)) {
                            x.row(row, sort, size);
                        }
                        for (int i = 0; i < size; i++) {
                            x.set(row, sort, i, 77);
                        }
                        oneLoad(x, row, node, new int[] {size, sort}, node < 0 || node > 6 ? null : want[node]);
                    }
                }
            }
        }
        check.due("load(0, MOST)", prepared(STATES[0]).load(0, MOST), UNKNOWN);
        check.due("load(0, LEAST)", prepared(STATES[0]).load(0, LEAST), UNKNOWN);
    }

    private static void oneLoad(ShapeFrames x, int row, int node, int[] state, int[] extents) {
        int size = state[0];
        int sort = state[1];
        boolean known = isRow(row) && extents != null;
        int want = !known ? UNKNOWN : size < 0 ? NULL : sort == 1 ? CAST : extents.length > size ? INDEX : extents.length;
        check.due("load(" + row + ", " + node + ") of " + size + " of sort " + sort, x.load(row, node), want);
        for (int i = 0; isRow(row) && i < size; i++) {
            check.due("get(" + row + ", " + sort + ", " + i + ")", x.get(row, sort, i), 50000 + (i < want ? extents[i] : 77));
        }
    }

    private static void loadedNumbers() {
        check.says("(as of extent(), numbers alone; a LETTER as -1)");
        ShapeFrames x = check.told("shape 9;shape 2;join 0 1 1;form 2 u;shape u 9;ravel 4 2;join 5 1 1;form 6 v;shape u 9 v;ravel 8 3");
        x.row(0, 0, 1);
        check.due("load(0, 9)", x.load(0, 9), 1);
        check.due("get(0, 0, 0)", x.get(0, 0, 0), 50000 + 9999);
        // As far as it went, if it fails; a node's own letter is a letter, too.
        x = check.told("shape 1 u;shape 2 3;each 0 1 0;ravel 1 2");
        x.row(0, 0, 2);
        check.due("load(0, 0)", x.load(0, 0), 2);
        check.due("get(0, 0, 1)", x.get(0, 0, 1), 49999);
        check.due("load(0, 3)", x.load(0, 3), 1);
        check.due("get(0, 0, 0)", x.get(0, 0, 0), 49999);
        // What came into the row stays, when the letter becomes a number.
        x.give(0, 8);
        check.due("get(0, 0, 1)", x.get(0, 0, 1), 49999);
        check.due("load(0, 0)", x.load(0, 0), 2);
        check.due("get(0, 0, 1)", x.get(0, 0, 1), 50008);
    }

    private static void summed() {
        check.says("All numbers of a ROW together, and 500000 more. UNKNOWN; NULL.");
        for (int sort = 0; sort <= 1; sort++) {
            for (int size = 0; size <= 10; size++) {
                ShapeFrames x = new ShapeFrames();
                x.row(1, sort, size);
                check.due("sum(1) of noughts", x.sum(1), 500000);
                for (int i = 0; i < size; i++) {
                    x.set(1, sort, i, 9999);
                }
                check.due("sum(1) of the greatest", x.sum(1), 500000 + 9999 * size);
                for (int i = 0; i < size; i++) {
                    x.set(1, sort, i, -9999);
                }
                check.due("sum(1) of the least", x.sum(1), 500000 - 9999 * size);
                check.due("sum(0)", x.sum(0), NULL);
            }
        }
        for (int row : ROWS) {
            check.due("sum(" + row + ")", new ShapeFrames().sum(row), isRow(row) ? NULL : UNKNOWN);
        }
        // A shorter row in a longer one's place has only its own.
        ShapeFrames x = prepared(STATES[1]);
        x.row(1, 0, 2);
        check.due("sum(1)", x.sum(1), 500000);
    }

    private static void dropped() {
        check.says("A ROW is missing from now on: how many places it had. UNKNOWN; NULL.");
        for (int[] state : STATES) {
            for (int row : ROWS) {
                ShapeFrames x = prepared(state);
                int want = !isRow(row) ? UNKNOWN : state[2 * row + 1] < 0 ? NULL : state[2 * row + 1];
                check.due("drop(" + row + ")", x.drop(row), want);
                if (want < 0) {
                    unchanged(x, state);
                    continue;
                }
                int[] without = state.clone();
                without[2 * row + 1] = -1;
                unchanged(x, without);
                check.due("drop(" + row + ") again", x.drop(row), NULL);
                check.due("row(" + row + ", 1, 10)", x.row(row, 1, 10), 10);
                check.due("sum(" + row + ")", x.sum(row), 500000);
            }
        }
    }

    private static void counted() {
        check.says("0 NODES, 1 GIVEN LETTERS (bits), 2 SEEN, 3 places of all ROWS, 4 how many can be undone, 5 letters of THE TEXT, 6 LETTERS (0 .. 3) that are told in some NODE (bits). OUTSIDE.");
        int[] outside = {-1, 7, 8, MOST, LEAST};
        for (int what : outside) {
            check.due("count(" + what + ")", new ShapeFrames().count(what), OUTSIDE);
        }
        // Each at its greatest.
        ShapeFrames x = check.told("shape u;shape v;shape w;shape x;shape;shape;shape;shape;shape;shape");
        for (int v = 0; v < 3; v++) {
            for (int letter = 0; letter < 4; letter++) {
                x.give(letter, v);
            }
        }
        for (int i = 0; i < 7; i++) {
            x.seen(1, 1, 1);
        }
        for (int row = 0; row < 3; row++) {
            x.row(row, row % 2, 10);
        }
        Check.write(x, " ".repeat(201));
        int[] most = {10, 15, 6, 30, 8, 200, 15};
        for (int what = 0; what < most.length; what++) {
            check.due("count(" + what + ")", x.count(what), most[what]);
        }
        // Letters that are told, whether they are numbers or not; those of forms, too, but not verbs' nor given ones.
        x = check.told("shape 1;form 0 x");
        x.give(0, 1);
        check.due("count(6)", x.count(6), 8);
        check.due("count(6)", check.told("shape v;turn 0 0;program;shape").count(6), 0);
        // Rows of none count none.
        x.row(0, 0, 0);
        check.due("count(3)", x.count(3), 0);
    }
}
