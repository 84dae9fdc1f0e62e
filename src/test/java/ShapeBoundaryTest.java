/** The boundary cases of NODES, RANKS, SHAPES and KINDS: promises 1 and 6 to 8, and sections 1 and 2, sentence by sentence. */
public final class ShapeBoundaryTest {
    private static final int NONE = ShapeFrames.NONE, UNKNOWN = ShapeFrames.UNKNOWN, OUTSIDE = ShapeFrames.OUTSIDE,
        NOT = ShapeFrames.NOT;
    // How many extents are in the frame, by how many a shape has (0 to 6) and by rank (-3 to 3).
    private static final int[][] FRAME = {
        {0, 0, 0, 0, 0, 0, 0}, {1, 1, 1, 1, 0, 0, 0}, {2, 2, 1, 2, 1, 0, 0}, {3, 2, 1, 3, 2, 1, 0},
        {3, 2, 1, 4, 3, 2, 1}, {3, 2, 1, 5, 4, 3, 2}, {3, 2, 1, 6, 5, 4, 3}};
    // Node n has n extents, all of them 2.
    private static final String TWOS = "shape;shape 2;shape 2 2;shape 2 2 2;join 3 3 0;join 4 4 0;join 5 5 0";
    // By how many extents: a text whose last node has so many, and what these are.
    private static final String[] LONG = {"shape", "shape 5", "shape 5 7", "shape 5 7 3", "shape 5 7 3;join 0 0 0",
        "shape 5 7 3;join 0 0 0;ravel 1 0", "shape 5 7 3;join 0 0 0;ravel 1 0;join 2 2 0"};
    private static final int[] EXTENTS = {5, 7, 3, 2, 1, 2};
    private static final Check check = new Check("ShapeBoundaryTest");

    public static void main(String[] args) {
        newObject();
        constants();
        ranksPartOneShape();
        ranksPartTwoShapes();
        shapesOfNoneToSixExtents();
        shapeAsTold();
        eachAgreesWhereBothHave();
        ofEqualLengthTheFirst();
        aCellWithoutExtentsIsOne();
        joinFramesAndShape();
        behindTheirFirstExtents();
        turnFoldRavelForm();
        nodesKinds();
        nodeAsked();
        extentAsked();
        kindsOverOneAnother();
        check.end();
    }

    private static String rankText(int rank) {
        return rank < 0 ? "-" + -rank : "" + rank;
    }

    private static void newObject() {
        check.says("No nodes, nothing given.");
        ShapeFrames x = new ShapeFrames();
        for (int what = 0; what <= 6; what++) {
            check.due("count(" + what + ")", x.count(what), 0);
        }
        for (int letter = 0; letter < 4; letter++) {
            check.due("letter(" + letter + ")", x.letter(letter), 20000 + letter);
            check.due("free(" + letter + ")", x.free(letter), NOT);
            check.due("way(" + letter + ")", x.way(letter), NOT);
        }
        for (int node = -1; node <= 10; node++) {
            check.due("node(" + node + ", 0)", x.node(node, 0), UNKNOWN);
            check.due("extent(" + node + ", 0)", x.extent(node, 0), UNKNOWN);
            check.due("as(" + node + ", 0)", x.as(node, 0), UNKNOWN);
        }
        for (int own = 4; own <= 14; own++) {
            check.due("letter(" + own + ")", x.letter(own), UNKNOWN);
        }
        check.fails(x);
        check.due("open()", x.open(), 0);
        check.due("ways()", x.ways(), 1);
        check.due("odds(0)", x.odds(0), 1);
        check.due("odds(1)", x.odds(1), 1);
        check.due("mend()", x.mend(), NONE);
        check.due("undo()", x.undo(), NOT);
        check.due("back(0)", x.back(0), NOT);
        check.due("back(1)", x.back(1), NOT);
        check.due("erase()", x.erase(), 0);
        check.due("forget()", x.forget(), 0);
        for (int row = 0; row < 3; row++) {
            check.due("drop(" + row + ")", x.drop(row), ShapeFrames.NULL);
        }
    }

    private static void constants() {
        check.says("public static final int NONE = -1, UNKNOWN = -2, OUTSIDE = -3, NOT = -4, FULL = -5, NULL = -11, SIZE = -12, CAST = -13, INDEX = -14, ROOM = -15;");
        int[] constants = {ShapeFrames.NONE, ShapeFrames.UNKNOWN, ShapeFrames.OUTSIDE, ShapeFrames.NOT, ShapeFrames.FULL,
            ShapeFrames.NULL, ShapeFrames.SIZE, ShapeFrames.CAST, ShapeFrames.INDEX, ShapeFrames.ROOM};
        int[] want = {-1, -2, -3, -4, -5, -11, -12, -13, -14, -15};
        for (int i = 0; i < want.length; i++) {
            check.due("constant " + i, constants[i], want[i]);
        }
    }

    private static void ranksPartOneShape() {
        check.says("A RANK R (-3 .. 3) parts a SHAPE of n EXTENTS:");
        check.says("R 0 or more: its CELL is the last R of them (all, if n is less), its FRAME the others; R below 0: its FRAME is the first -R of them (all, if n is less), its CELL the others.");
        for (int n = 0; n <= 6; n++) {
            int last = LONG[n].split(";").length - 1;
            for (int rank = -3; rank <= 3; rank++) {
                int frame = FRAME[n][rank + 3];
                String text = LONG[n] + ";ravel " + last + " " + rankText(rank);
                if (frame == 6) {
                    check.fault("", text, LONG[n].length() + 1);
                } else {
                    int[] raveled = new int[frame + 1];
                    raveled[frame] = 1;
                    for (int axis = 0; axis < n; axis++) {
                        raveled[Math.min(axis, frame)] = axis < frame ? EXTENTS[axis] : raveled[frame] * EXTENTS[axis];
                    }
                    check.shape(check.told(text), last + 1, raveled);
                }
                int[] folded = new int[frame + Math.max(0, n - frame - 1)];
                for (int axis = 0; axis < folded.length; axis++) {
                    folded[axis] = EXTENTS[axis < frame ? axis : axis + 1];
                }
                check.shape(check.told(LONG[n] + ";fold " + last + " " + rankText(rank)), last + 1, folded);
            }
        }
    }

    private static void ranksPartTwoShapes() {
        check.says("the SHAPE is the longer FRAME (of equal length the first one's), then the longer CELL likewise");
        ShapeFrames x = check.told(TWOS);
        for (int m = 0; m <= 6; m++) {
            check.due("node(" + m + ", 1)", x.node(m, 1), m);
            for (int n = 0; n <= 6; n++) {
                for (int rank = -3; rank <= 3; rank++) {
                    pair(m, n, rank);
                }
            }
        }
    }

    /** Both verbs of two arguments, of m and of n extents that are all 2. */
    private static void pair(int m, int n, int rank) {
        int frame = Math.max(FRAME[m][rank + 3], FRAME[n][rank + 3]);
        int cell = Math.max(m - FRAME[m][rank + 3], n - FRAME[n][rank + 3]);
        String arguments = " " + m + " " + n + " " + rankText(rank);
        ShapeFrames x = check.told(TWOS + ";each" + arguments);
        int[] each = new int[frame + cell];
        java.util.Arrays.fill(each, 2);
        check.shape(x, 7, each);
        check.fails(x);
        int[] join = new int[frame + Math.max(1, cell)];
        if (join.length > 6) {
            check.fault(TWOS, "join" + arguments, 0);
            return;
        }
        java.util.Arrays.fill(join, 2);
        int one = m == FRAME[m][rank + 3] ? 1 : 2;
        int other = n == FRAME[n][rank + 3] ? 1 : 2;
        join[frame] = one + other;
        x = check.told(TWOS + ";join" + arguments);
        check.shape(x, 7, join);
        check.fails(x);
    }

    private static void shapesOfNoneToSixExtents() {
        check.says("A SHAPE is a row of EXTENTS (0 to 6 of them), axis by axis.");
        for (int n = 0; n <= 6; n++) {
            ShapeFrames x = check.told(LONG[n]);
            int[] extents = new int[n];
            System.arraycopy(EXTENTS, 0, extents, 0, n);
            check.shape(x, LONG[n].split(";").length - 1, extents);
        }
        // Each kind of node can be of none.
        ShapeFrames x = check.told("shape;each 0 0 3;turn 0 -3;fold 0 3;form 0;shape 4;fold 5 1");
        int[] none = {0, 1, 2, 3, 4, 6};
        for (int node : none) {
            check.shape(x, node);
        }
        check.fails(x);
        // Each kind of verb can be of six.
        x = check.told(LONG[6] + ";each 3 0 0;join 3 3 1;turn 3 3;fold 3 0;ravel 3 1");
        check.shape(x, 4, 5, 7, 3, 2, 1, 2);
        check.shape(x, 5, 5, 7, 3, 2, 1, 4);
        check.shape(x, 6, 5, 7, 3, 2, 1, 2);
        check.shape(x, 7, 5, 7, 3, 2, 1, 2);
        check.shape(x, 8, 5, 7, 3, 2, 1, 2);
        check.fails(x);
    }

    private static void shapeAsTold() {
        check.says("Of a NODE the SHAPE, and what must hold: SHAPE: as told.");
        // Each extent that can be told, alone and at each of three axes.
        String[] extents = {"0", "1", "2", "3", "4", "5", "6", "7", "8", "9", "u", "v", "w", "x"};
        for (int one = 0; one < extents.length; one++) {
            int value = one < 10 ? one : 20000 + one - 10;
            check.shape(check.told("shape " + extents[one]), 0, value);
            check.shape(check.told("shape 1 2 " + extents[one]), 0, 1, 2, value);
            check.shape(check.told("shape 1 " + extents[one] + " 3"), 0, 1, value, 3);
            ShapeFrames x = check.told("shape " + extents[one] + " 2 3");
            check.shape(x, 0, value, 2, 3);
            // By itself it must hold nothing.
            check.fails(x);
        }
    }

    private static void eachAgreesWhereBothHave() {
        check.says("EACH: FRAMES of both, CELLS of both (by R) must agree:");
        // Alike in front, unlike behind: which of the two parts fails, and at which of its axes, is by rank.
        String unlike = "shape 4 5 6;shape 4 5 7;each 0 1 ";
        int[][] want = {{1, 2}, {2, 0}, {2, 1}, {1, 2}, {2, 0}, {2, 1}, {2, 2}};
        for (int rank = -3; rank <= 3; rank++) {
            check.fails(check.told(unlike + rankText(rank)), 2, want[rank + 3][0], want[rank + 3][1], 6, 7);
        }
        check.says("where both have an EXTENT at an axis these are EQUAL");
        // The longer one's extents behind the shorter one's end meet nothing.
        check.fails(check.told("shape 2 3 4;shape 2;each 0 1 0"));
        check.fails(check.told("shape 2 3 4;shape 2 3;each 1 0 0"));
        check.fails(check.told("shape 2 3 4;shape 2 5;each 1 0 0"), 2, 1, 1, 5, 3);
        check.fails(check.told("shape 2 3 4;shape;each 0 1 0"));
        check.fails(check.told("shape 2 3 4;shape;each 1 0 3"));
        check.fails(check.told("shape 2 3 4;shape 2;each 0 1 3"));
        check.fails(check.told("shape 2 3 4;shape 4;each 0 1 3"), 2, 2, 0, 2, 4);
        // A shape that is all frame by this rank meets no cell, and one that is all cell meets no frame.
        check.fails(check.told("shape 2 3 4;shape 2;each 0 1 -1"));
        check.fails(check.told("shape 2 3 4;shape 4;each 0 1 -1"), 2, 1, 0, 2, 4);
        check.fails(check.told("shape 2 3 4;shape 4;each 0 1 1"));
        check.fails(check.told("shape 2 3 4;shape 2;each 0 1 1"), 2, 2, 0, 4, 2);
    }

    private static void ofEqualLengthTheFirst() {
        check.says("of equal length the first one's");
        ShapeFrames x = check.told("shape 1 2 3;shape 4 5 6;each 0 1 2;each 1 0 2;join 0 1 2;join 1 0 2");
        check.shape(x, 2, 1, 2, 3);
        check.shape(x, 3, 4, 5, 6);
        check.shape(x, 4, 1, 20008, 3);
        check.shape(x, 5, 4, 20009, 6);
        // A longer second one's is taken, as is a longer first one's.
        x = check.told("shape 1 2;shape 4 5 6;each 0 1 1;each 1 0 1;each 0 1 -1;each 1 0 -1;join 0 1 1;join 1 0 -1");
        check.shape(x, 2, 4, 5, 2);
        check.shape(x, 3, 4, 5, 6);
        check.shape(x, 4, 1, 5, 6);
        check.shape(x, 5, 4, 5, 6);
        check.shape(x, 6, 4, 5, 20010);
        check.shape(x, 7, 4, 20011, 6);
    }

    private static void aCellWithoutExtentsIsOne() {
        check.says("a CELL without EXTENTS counts as one of the EXTENT 1");
        ShapeFrames x = check.told("shape;shape 6;shape 6 9;join 0 0 3;join 0 1 1;join 1 0 1;join 1 1 0;join 1 1 -1;join 1 2 -1;join 0 2 2");
        check.shape(x, 3, 2);
        check.shape(x, 4, 7);
        check.shape(x, 5, 7);
        check.shape(x, 6, 6, 2);
        check.shape(x, 7, 6, 2);
        check.shape(x, 8, 6, 10);
        check.shape(x, 9, 7, 9);
        check.fails(x);
        // As an extent 1 it is only joined: it meets nothing, and each has no such cell.
        x = check.told("shape;shape 6;each 0 1 1;each 0 0 0");
        check.shape(x, 2, 6);
        check.shape(x, 3);
        check.fails(x);
    }

    private static void joinFramesAndShape() {
        check.says("JOIN: FRAMES as of EACH;");
        check.fails(check.told("shape 1 2 3;shape 1 4 3;join 0 1 1"), 2, 1, 1, 2, 4);
        check.fails(check.told("shape 1 2 3;shape 5 2 3;join 1 0 0"), 2, 1, 0, 5, 1);
        check.fails(check.told("shape 1 2 3;shape 1 2 9;join 0 1 1"));
        check.fails(check.told("shape 1 2 3;shape 9;join 0 1 1"));
        check.fails(check.told("shape 1 2 3;shape 9;join 0 1 -1"), 2, 1, 0, 1, 9);
        check.says("the SHAPE is the longer FRAME, a LETTER of its own, the longer one of what is behind the first EXTENTS;");
        // Frames and cells of unlike lengths, either one the longer; the letters that stay open show what came from where.
        ShapeFrames x = check.told("shape u v w;shape x;join 0 1 1;join 1 0 1;join 0 1 3;join 1 0 3;join 0 1 -1;join 1 0 -1");
        check.shape(x, 2, 20000, 20001, 20006);
        check.shape(x, 3, 20000, 20001, 20007);
        check.shape(x, 4, 20008, 20001, 20002);
        check.shape(x, 5, 20009, 20001, 20002);
        // By -1 x is a frame, so that it is alike u.
        check.shape(x, 6, 20000, 20010, 20002);
        check.shape(x, 7, 20000, 20011, 20002);
        check.due("letter(3)", x.letter(3), 20000);
        // The letter of its own is 4 and the node's number.
        check.due("letter(6)", x.letter(6), 20006);
        check.due("letter(11)", x.letter(11), 20011);
    }

    private static void behindTheirFirstExtents() {
        check.says("behind their first EXTENTS the CELLS agree as of EACH");
        check.fails(check.told("shape 1 5;shape 2 5;join 0 1 2"));
        check.fails(check.told("shape 1 5;shape 2 6;join 0 1 2"), 2, 2, 1, 5, 6);
        check.fails(check.told("shape 1 5 7;shape 2 5 8;join 0 1 3"), 2, 2, 2, 7, 8);
        check.fails(check.told("shape 1 5 7;shape 2 5;join 0 1 3"));
        check.fails(check.told("shape 1 5 7;shape 2;join 0 1 3"));
        check.fails(check.told("shape 1 5 7;shape;join 0 1 3"));
        check.says("that LETTER is the SUM of both first EXTENTS");
        check.shape(check.told("shape 0;join 0 0 1"), 1, 0);
        check.shape(check.told("shape 0;shape 9;join 0 1 1"), 2, 9);
        check.shape(check.told("shape 9;join 0 0 1"), 1, 18);
        check.shape(check.told("shape 1 5 7;shape 2 5;join 1 0 3"), 2, 3, 5, 7);
    }

    private static void turnFoldRavelForm() {
        check.says("TURN: the SHAPE of its argument.");
        ShapeFrames x = check.told("shape;turn 0 0;shape 0 9 u;turn 2 -3");
        check.shape(x, 1);
        check.shape(x, 3, 0, 9, 20000);
        check.says("FOLD: FRAME, then the CELL without its first EXTENT (if there is one).");
        x = check.told("shape;fold 0 0;fold 0 3;shape 4;fold 3 0;fold 3 1;fold 3 -1;shape 4 5;fold 7 -1;fold 7 -2");
        check.shape(x, 1);
        check.shape(x, 2);
        check.shape(x, 4, 4);
        check.shape(x, 5);
        check.shape(x, 6, 4);
        check.shape(x, 8, 4);
        check.shape(x, 9, 4, 5);
        check.says("RAVEL: FRAME, then a LETTER of its own;");
        x = check.told("shape u v w;ravel 0 0;ravel 0 1;ravel 0 2;ravel 0 3;ravel 0 -1;ravel 0 -2;ravel 0 -3");
        check.shape(x, 1, 20000, 20001, 20002, 1);
        check.shape(x, 2, 20000, 20001, 20006);
        check.shape(x, 3, 20000, 20007);
        check.shape(x, 4, 20008);
        check.shape(x, 5, 20000, 20009);
        check.shape(x, 6, 20000, 20001, 20010);
        check.shape(x, 7, 20000, 20001, 20002, 1);
        check.says("that is the PRODUCT of all EXTENTS of the CELL (1 without any)");
        x = check.told("shape;ravel 0 0;ravel 0 3;shape 0 9 9;ravel 3 0;ravel 3 -3;ravel 3 1;ravel 3 2;ravel 3 3;ravel 3 -1");
        check.shape(x, 1, 1);
        check.shape(x, 2, 1);
        check.shape(x, 4, 0, 9, 9, 1);
        check.shape(x, 5, 0, 9, 9, 1);
        check.shape(x, 6, 0, 9, 9);
        check.shape(x, 7, 0, 81);
        check.shape(x, 8, 0);
        check.shape(x, 9, 0, 81);
        check.says("FORM: as told; the PRODUCT of these is the PRODUCT of all EXTENTS of its argument.");
        x = check.told("shape;form 0;form 0 1 1 1;shape 1;form 3;shape 0 9;form 5 0 0;form 5 8 0 7;shape 9 9 8;form 8 8 9 9");
        check.fails(x);
        check.shape(x, 1);
        check.shape(x, 2, 1, 1, 1);
        check.shape(x, 9, 8, 9, 9);
        check.fails(check.told("shape;form 0 2"), 1, 4, 0, 0, 0);
        check.fails(check.told("shape;form 0 0"), 1, 4, 0, 0, 0);
        check.fails(check.told("shape 2;form 0"), 1, 4, 0, 0, 0);
        check.fails(check.told("shape 0;form 0"), 1, 4, 0, 0, 0);
        check.fails(check.told("shape 9 9 8;form 0 8 9 8"), 1, 4, 0, 0, 0);
    }

    private static void nodesKinds() {
        check.says("each of a KIND: 0 SHAPE, 1 EACH, 2 JOIN, 3 TURN, 4 FOLD, 5 RAVEL, 6 FORM.");
        ShapeFrames x = check.told("shape 1;each 0 0 0;join 0 0 0;turn 0 0;fold 0 0;ravel 0 0;form 0 1");
        for (int kind = 0; kind <= 6; kind++) {
            check.due("node(" + kind + ", 0)", x.node(kind, 0), kind);
        }
    }

    private static void nodeAsked() {
        check.says("Of a NODE: KIND (what 0), how many EXTENTS its SHAPE has (1), its argument M (2; NONE), N (3; NONE), R and 10 (4; NONE: it has none). UNKNOWN; OUTSIDE.");
        ShapeFrames x = check.told("shape;shape 1 2 3;each 1 0 -3;join 0 1 3;turn 3 0;fold 4 -1;ravel 5 1;form 6;form 6 1 2 u;turn 8 -3");
        int[][] want = {
            {0, 0, NONE, NONE, NONE}, {0, 3, NONE, NONE, NONE}, {1, 3, 1, 0, 7}, {2, 3, 0, 1, 13}, {3, 3, 3, NONE, 10},
            {4, 2, 4, NONE, 9}, {5, 2, 5, NONE, 11}, {6, 0, 6, NONE, NONE}, {6, 3, 6, NONE, NONE}, {3, 3, 8, NONE, 7}};
        int[] outside = {-1, 5, 6, Integer.MAX_VALUE, Integer.MIN_VALUE};
        for (int node = 0; node < 10; node++) {
            for (int what = 0; what <= 4; what++) {
                check.due("node(" + node + ", " + what + ")", x.node(node, what), want[node][what]);
            }
            for (int what : outside) {
                check.due("node(" + node + ", " + what + ")", x.node(node, what), OUTSIDE);
            }
        }
        int[] unknown = {-1, 10, 11, Integer.MAX_VALUE, Integer.MIN_VALUE};
        for (int node : unknown) {
            check.due("node(" + node + ", 0)", x.node(node, 0), UNKNOWN);
            check.due("node(" + node + ", 5)", x.node(node, 5), UNKNOWN);
        }
        x = check.told("shape");
        check.due("node(0, 0)", x.node(0, 0), 0);
        check.due("node(1, 0)", x.node(1, 0), UNKNOWN);
    }

    private static void extentAsked() {
        check.says("The EXTENT at an axis of a NODE's SHAPE, SOLVED");
        check.says("a number; or 20000 and the least LETTER that it is ALIKE. UNKNOWN; OUTSIDE: there is no such axis.");
        ShapeFrames x = check.told("shape 0 9 x;shape;ravel 0 2;turn 0 0;turn 0 0;turn 0 0;turn 0 0;turn 0 0;turn 0 0;ravel 0 3");
        check.shape(x, 0, 0, 9, 20003);
        // A node's own letter is 4 and its number, up to 13; a nought beside a letter leaves its product open.
        check.shape(x, 2, 0, 20006);
        check.shape(x, 9, 20013);
        int[] outside = {-1, 3, 6, 7, Integer.MAX_VALUE, Integer.MIN_VALUE};
        for (int axis : outside) {
            check.due("extent(0, " + axis + ")", x.extent(0, axis), OUTSIDE);
            check.due("extent(1, " + axis + ")", x.extent(1, axis), OUTSIDE);
            check.due("extent(10, " + axis + ")", x.extent(10, axis), UNKNOWN);
            check.due("extent(-1, " + axis + ")", x.extent(-1, axis), UNKNOWN);
        }
        check.due("extent(1, 0) of no extents", x.extent(1, 0), OUTSIDE);
        check.says("An EXTENT is a number (0 .. 9999) or a LETTER: 0 .. 3 (u, v, w, x in texts), or that of a NODE (4 and its number).");
        check.shape(check.told("shape u v w;shape x"), 0, 20000, 20001, 20002);
        check.shape(check.told("shape u v w;shape x"), 1, 20003);
        // The least of all that are alike, told letters ahead of nodes' own, earlier nodes' ahead of later ones'.
        x = check.told("shape u v;ravel 0 2;join 0 0 1;shape x;each 1 3 1;ravel 0 3;ravel 0 3;each 5 6 1");
        check.shape(x, 1, 20003);
        check.shape(x, 5, 20009);
        check.shape(x, 6, 20009);
    }

    private static void kindsOverOneAnother() {
        check.says("KINDS are over one another: VERB (0); TURN (3) is VERB; FOLD (4) is TURN; RAVEL (5) is FOLD; EACH (1) is VERB; JOIN (2) is EACH. (SHAPE, FORM are no VERBS.)");
        check.says("A NODE taken as a KIND of VERB (0 .. 5, as they are over one another; 0 a VERB): 1. UNKNOWN; OUTSIDE; NOT: it is none such.");
        ShapeFrames x = check.told("shape 2;each 0 0 0;join 0 0 0;turn 0 0;fold 0 0;ravel 0 0;form 0 2");
        String[] yes = {"", "01", "012", "03", "034", "0345", ""};
        int[] outside = {-1, 6, 7, Integer.MAX_VALUE, Integer.MIN_VALUE};
        for (int node = 0; node < yes.length; node++) {
            for (int kind = 0; kind <= 5; kind++) {
                check.due("as(" + node + ", " + kind + ")", x.as(node, kind), yes[node].indexOf('0' + kind) >= 0 ? 1 : NOT);
            }
            for (int kind : outside) {
                check.due("as(" + node + ", " + kind + ")", x.as(node, kind), OUTSIDE);
            }
        }
        int[] unknown = {-1, 7, 10, Integer.MAX_VALUE, Integer.MIN_VALUE};
        for (int node : unknown) {
            check.due("as(" + node + ", 0)", x.as(node, 0), UNKNOWN);
            check.due("as(" + node + ", 6)", x.as(node, 6), UNKNOWN);
        }
    }
}
