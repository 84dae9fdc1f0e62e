/** Promises 1 to 8: a new object, the text and its faults, the nodes and their shapes. */
public final class ToldTest {
    private static final int NONE = ShapeFrames.NONE, UNKNOWN = ShapeFrames.UNKNOWN, OUTSIDE = ShapeFrames.OUTSIDE,
        NOT = ShapeFrames.NOT, FULL = ShapeFrames.FULL;
    private static final String SHAPES = "shape;shape;shape;shape;shape;shape;shape;shape;shape;shape";
    private static final Check check = new Check("ToldTest");

    public static void main(String[] args) {
        promise1NewObject();
        promise2Write();
        promise3Erase();
        promise4FaultTokens();
        promise4FaultArguments();
        promise4FaultLimits();
        promise4FaultTooManyAxes();
        promise5Program();
        promise5ForgetsAll();
        promise6Node();
        promise7Extent();
        promise7EachAndJoin();
        promise7OtherVerbs();
        promise8As();
        check.end();
    }

    private static void promise1NewObject() {
        ShapeFrames x = new ShapeFrames();
        for (int what = 0; what <= 6; what++) {
            check.due("count(" + what + ") of a new object", x.count(what), 0);
        }
        for (int letter = 0; letter < 4; letter++) {
            check.due("letter(" + letter + ") of a new object", x.letter(letter), 20000 + letter);
            check.due("free(" + letter + ") of a new object", x.free(letter), NOT);
        }
        check.due("node(0, 0) of a new object", x.node(0, 0), UNKNOWN);
        check.fails(x);
        for (int row = 0; row < 3; row++) {
            check.due("sum(" + row + ") of a new object", x.sum(row), ShapeFrames.NULL);
        }
        // Two objects share nothing.
        ShapeFrames y = new ShapeFrames();
        x.give(0, 1);
        x.write(97);
        check.due("count(1) of another object", y.count(1), 0);
        check.due("count(5) of another object", y.count(5), 0);
    }

    private static void promise2Write() {
        ShapeFrames x = new ShapeFrames();
        check.due("write(-1)", x.write(-1), OUTSIDE);
        check.due("write(256)", x.write(256), OUTSIDE);
        check.due("write(Integer.MAX_VALUE)", x.write(Integer.MAX_VALUE), OUTSIDE);
        check.due("write(Integer.MIN_VALUE)", x.write(Integer.MIN_VALUE), OUTSIDE);
        check.due("count(5) behind refused ones", x.count(5), 0);
        check.due("write(0)", x.write(0), 1);
        check.due("write(255)", x.write(255), 2);
        for (int i = 3; i <= 200; i++) {
            check.due("write(32), the " + i + "th", x.write(32), i);
        }
        check.due("write(32), the 201st", x.write(32), FULL);
        check.due("write(256), the text being full", x.write(256), OUTSIDE);
        check.due("count(5) of a full text", x.count(5), 200);
    }

    private static void promise3Erase() {
        ShapeFrames x = check.told("shape 3 u");
        check.due("erase() of an empty text", x.erase(), 0);
        x.give(0, 4);
        Check.write(x, "shape zz");
        check.due("erase()", x.erase(), 8);
        check.due("count(5) behind erase()", x.count(5), 0);
        check.due("count(0) behind erase()", x.count(0), 1);
        check.due("count(1) behind erase()", x.count(1), 1);
        check.due("fault() behind erase()", x.fault(), 0);
        check.due("write(97) behind erase()", x.write(97), 1);
    }

    private static void promise4FaultTokens() {
        check.fault("", "", 0);
        check.fault("", "   ", 3);
        check.fault("", "shape", NONE);
        check.fault("", "  shape  ", NONE);
        check.fault("", "shape;", 6);
        check.fault("", "shape; ", 7);
        check.fault("", ";shape", 0);
        check.fault("", "shape;;shape", 6);
        check.fault("", "shape ; ; shape", 8);
        check.fault("", "shapes", 0);
        check.fault("", "shap", 0);
        check.fault("", "shapez", 0);
        check.fault("", "ashape", 0);
        check.fault("", "Shape", 0);
        check.fault("", "sHape", 0);
        check.fault("", " 3", 1);
        check.fault("", "shape.", 5);
        check.fault("", "shape\t3", 5);
        check.fault("", "shape 3, 4", 7);
        check.fault("", "shape 3" + (char) 233, 7);
        check.fault("", "shape 3" + (char) 0, 7);
        check.fault("", "program shape", 8);
        check.fault("", "program 1", 8);
        check.fault("", "program;shape", NONE);
        check.fault("", "program", NONE);
        // A row of letters and a row of digits part one another without a blank.
        check.fault("", "shape3u4;each0 0-1", NONE);
        check.fault("", "shape3u4;each0 0--1", 17);
        // Extents.
        check.fault("", "shape u v w", NONE);
        check.fault("", "shape u v w x", 12);
        check.fault("", "shape 1 2 3 4", 12);
        check.fault("", "shape t", 6);
        check.fault("", "shape y", 6);
        check.fault("", "shape u vw", 8);
        check.fault("", "shape u v w xx", 12);
        check.fault("", "shape u program", 8);
        check.fault("", "shape 09 00", NONE);
        check.fault("", "shape 10", 6);
        check.fault("", "shape 1 99", 8);
        check.fault("", "shape 009", 6);
        check.fault("", "shape 1 2 3 099", 12);
        check.fault("", "shape -1", 6);
    }

    private static void promise4FaultArguments() {
        check.fault("", "each 0 0 0", 5);
        check.fault("", "turn 0 1", 5);
        check.fault("", "form 0", 5);
        check.fault("shape", "each 0 1 0", 7);
        check.fault("shape", "each 0 0 0", NONE);
        check.fault("shape", "each 00 00 00", NONE);
        check.fault("shape", "each 000 0 0", 5);
        check.fault("shape", "each 1 0 0", 5);
        check.fault("shape", "each u 0 0", 5);
        check.fault("shape", "each -0 0 0", 5);
        check.fault("shape", "each 0 0", 8);
        check.fault("shape", "each 0", 6);
        check.fault("shape", "each", 4);
        check.fault("shape", "each 0 0 4", 9);
        check.fault("shape", "each 0 0 3", NONE);
        check.fault("shape", "each 0 0 -3", NONE);
        check.fault("shape", "each 0 0 - 03", NONE);
        check.fault("shape", "each 0 0 -4", 10);
        check.fault("shape", "each 0 0 -0", 10);
        check.fault("shape", "each 0 0 -", 10);
        check.fault("shape", "each 0 0 -u", 10);
        check.fault("shape", "each 0 0 +1", 9);
        check.fault("shape", "each 0 0 1 1", 11);
        check.fault("shape", "join 0 0 1 u", 11);
        check.fault("shape", "join 0 1 1", 7);
        check.fault("shape", "turn 0 1 1", 9);
        check.fault("shape", "turn 0", 6);
        check.fault("shape", "fold 1 1", 5);
        check.fault("shape", "fold 0 1", NONE);
        check.fault("shape", "fold 0 5", 7);
        check.fault("shape", "ravel 0 3", NONE);
        check.fault("shape", "ravel 0 -", 9);
        check.fault("shape", "form", 4);
        check.fault("shape", "form 0", NONE);
        check.fault("shape", "form 1", 5);
        check.fault("shape", "form u", 5);
        check.fault("shape", "form 0 1 2 3", NONE);
        check.fault("shape", "form 0 1 2 3 4", 13);
        check.fault("shape", "form 0 12", 7);
        check.fault("shape", "form 0 -1", 7);
        // Nodes told ahead in the same text can be meant, the node itself and later ones cannot.
        check.fault("", "shape;turn 0 0;turn 1 0", NONE);
        check.fault("", "shape;turn 1 0;turn 1 0", 11);
        check.fault("", "shape;shape;program;turn 0 0", 25);
        check.fault("shape;shape", "program;shape;turn 1 0", 19);
    }

    private static void promise4FaultLimits() {
        check.fault("", SHAPES, NONE);
        check.fault("", SHAPES + ";shape", 60);
        check.fault("", SHAPES + "; turn 0 0", 61);
        check.fault(SHAPES, "shape", 0);
        check.fault(SHAPES, "shape 77", 0);
        check.fault(SHAPES, "shapes", 0);
        check.fault(SHAPES, "program;shape", NONE);
        check.fault("", SHAPES + ";program;" + SHAPES, NONE);
        check.fault("", SHAPES + ";turn 9 0", 60);
        check.fault("shape;shape;shape;shape;shape;shape;shape;shape;shape", "turn 8 0", NONE);
        check.fault("shape;shape;shape;shape;shape;shape;shape;shape;shape", "turn 9 0", 5);
        check.fault("shape;shape;shape;shape;shape;shape;shape;shape;shape", "turn 10 0", 5);
        // 24 clauses, and the separator with which a 25th would begin.
        String many = SHAPES + ";program;" + SHAPES + ";program;shape;shape";
        check.fault("", many, NONE);
        check.fault("", many + ";shape", many.length());
        check.fault("", many + " ;shape", many.length() + 1);
        check.fault("", many + ";", many.length());
    }

    private static void promise4FaultTooManyAxes() {
        String six = "shape 1 2 3;ravel 0 0;join 1 1 0;ravel 2 0";
        check.fault("", six, NONE);
        check.fault("", six + ";ravel 3 0", six.length() + 1);
        check.fault("", six + "; join 0 3 0", six.length() + 2);
        check.fault("", six + ";ravel 3 -3", NONE);
        check.fault("", six + ";ravel 3 1", NONE);
        check.fault("", six + ";join 0 3 1", NONE);
        check.fault("", six + ";each 0 3 0", NONE);
        check.fault("", six + ";turn 3 0", NONE);
        // The word comes ahead of what follows its arguments, but not of a fault in these.
        check.fault("", six + ";ravel 3 0 7", six.length() + 1);
        check.fault("", six + ";ravel 3 0;zzz", six.length() + 1);
        check.fault("", six + ";ravel 3 4", six.length() + 9);
        check.fault("", six + ";join 3 4 0", six.length() + 8);
    }

    private static void promise5Program() {
        ShapeFrames x = new ShapeFrames();
        check.due("program() of an empty text", x.program(), NOT);
        check.tell(x, "shape 3 u;turn 0 1");
        check.due("count(5) behind program()", x.count(5), 0);
        check.due("count(0) behind program()", x.count(0), 2);
        check.due("program() again", x.program(), NOT);
        // What earlier texts told stays.
        check.tell(x, "each 0 1 0; shape u");
        check.due("count(0) behind a second text", x.count(0), 4);
        check.due("node(2, 3)", x.node(2, 3), 1);
        check.shape(x, 0, 3, 20000);
        Check.write(x, "shape 4;shape 10");
        check.due("program() with a fault", x.program(), NOT);
        check.due("count(0) behind it", x.count(0), 4);
        x.erase();
        check.tell(x, "shape 1;program;shape 7 8 v");
        check.due("count(0) behind a program clause", x.count(0), 1);
        check.shape(x, 0, 7, 8, 20001);
        check.due("count(6) behind a program clause", x.count(6), 2);
        check.tell(x, "program");
        check.due("count(0) behind a program clause alone", x.count(0), 0);
        check.due("node(0, 0) behind a program clause alone", x.node(0, 0), UNKNOWN);
        // Asking for the fault again and again does nothing.
        Check.write(x, "shape;shape;shape;shape;turn 3 0;turn 4 0");
        for (int i = 0; i < 3; i++) {
            check.due("fault() again", x.fault(), NONE);
        }
        check.due("program() behind fault()", x.program(), 6);
        check.due("count(0)", x.count(0), 6);
        check.tell(x, "program");
        // What a refused text had already read leaves nothing behind.
        check.tell(x, "shape 5");
        Check.write(x, "program;shape 6 6;shape zz");
        check.due("program() with a fault behind a program clause", x.program(), NOT);
        check.due("fault() of it", x.fault(), 24);
        check.due("count(0) behind it", x.count(0), 1);
        check.shape(x, 0, 5);
    }

    private static void promise5ForgetsAll() {
        String[] texts = {"turn 0 0", "program", "program;shape u"};
        for (String text : texts) {
            ShapeFrames x = check.told("shape u");
            x.give(0, 3);
            x.give(1, 4);
            x.keep(0);
            x.keep(1);
            x.seen(4, 1, 8);
            x.row(0, 0, 3);
            x.row(2, 1, 0);
            check.tell(x, text);
            check.due("count(1) behind \"" + text + "\"", x.count(1), 0);
            check.due("count(2) behind \"" + text + "\"", x.count(2), 0);
            check.due("count(3) behind \"" + text + "\"", x.count(3), 0);
            check.due("count(4) behind \"" + text + "\"", x.count(4), 0);
            check.due("undo() behind \"" + text + "\"", x.undo(), NOT);
            check.due("back(0) behind \"" + text + "\"", x.back(0), NOT);
            check.due("back(1) behind \"" + text + "\"", x.back(1), NOT);
            check.due("kinds() behind \"" + text + "\"", x.kinds(), 62);
            check.due("sum(0) behind \"" + text + "\"", x.sum(0), ShapeFrames.NULL);
            check.due("sum(2) behind \"" + text + "\"", x.sum(2), ShapeFrames.NULL);
            check.due("letter(0) behind \"" + text + "\"", x.letter(0), 20000);
        }
        // A refused text changes none of these.
        ShapeFrames x = check.told("shape u");
        x.give(0, 3);
        x.keep(1);
        x.seen(4, 1, 8);
        x.row(0, 0, 3);
        Check.write(x, "program;shape zz");
        check.due("program()", x.program(), NOT);
        check.due("count(1) behind a refused text", x.count(1), 1);
        check.due("count(2) behind a refused text", x.count(2), 1);
        check.due("count(3) behind a refused text", x.count(3), 3);
        check.due("undo() behind a refused text", x.undo(), 0);
        check.due("back(1) behind a refused text", x.back(1), 1);
    }

    private static void promise6Node() {
        ShapeFrames x = check.told("shape 2 u 3;shape 3;each 0 1 1;join 1 0 -1;turn 3 -3;fold 0 0;ravel 0 3;form 0 6 u");
        int[][] want = {
            {0, 3, NONE, NONE, NONE}, {0, 1, NONE, NONE, NONE}, {1, 3, 0, 1, 11}, {2, 3, 1, 0, 9}, {3, 3, 3, NONE, 7},
            {4, 3, 0, NONE, 10}, {5, 1, 0, NONE, 13}, {6, 2, 0, NONE, NONE}};
        for (int node = 0; node < want.length; node++) {
            for (int what = 0; what < 5; what++) {
                check.due("node(" + node + ", " + what + ")", x.node(node, what), want[node][what]);
            }
            check.due("node(" + node + ", 5)", x.node(node, 5), OUTSIDE);
            check.due("node(" + node + ", -1)", x.node(node, -1), OUTSIDE);
        }
        check.due("node(8, 0)", x.node(8, 0), UNKNOWN);
        check.due("node(8, 9)", x.node(8, 9), UNKNOWN);
        check.due("node(-1, 0)", x.node(-1, 0), UNKNOWN);
        check.due("node(10, 0)", x.node(10, 0), UNKNOWN);
        check.due("node(Integer.MIN_VALUE, 0)", x.node(Integer.MIN_VALUE, 0), UNKNOWN);
    }

    private static void promise7Extent() {
        ShapeFrames x = check.told("shape 9 w;shape;shape v v;each 0 2 -1");
        check.shape(x, 0, 9, 9);
        check.shape(x, 1);
        check.shape(x, 2, 9, 9);
        check.due("extent(0, -1)", x.extent(0, -1), OUTSIDE);
        check.due("extent(4, 0)", x.extent(4, 0), UNKNOWN);
        check.due("extent(-1, 9)", x.extent(-1, 9), UNKNOWN);
        check.due("extent(0, Integer.MAX_VALUE)", x.extent(0, Integer.MAX_VALUE), OUTSIDE);
        // The least letter that it is alike, a node's own among them.
        x = check.told("shape x;shape w;each 0 1 0;shape v;each 1 3 0");
        check.shape(x, 0, 20001);
        check.shape(x, 4, 20001);
        x = check.told("shape u v;ravel 0 2;shape x;each 1 2 0;join 1 1 0");
        check.shape(x, 1, 20003);
        check.shape(x, 4, 20003, 2);
        x = check.told("shape u v;ravel 0 2;ravel 0 2;each 2 1 0");
        check.shape(x, 2, 20005);
        // As far as it went, if it fails: what was met ahead stays, what comes behind is not met.
        x = check.told("shape u v w;shape 3 4 5;shape 3 5 6;each 0 1 -1;each 0 2 3");
        check.fails(x, 4, 2, 1, 4, 5);
        check.shape(x, 0, 3, 4, 5);
        x = check.told("shape 1 w;shape 2 7;each 0 1 0;ravel 1 2");
        check.fails(x, 2, 1, 0, 1, 2);
        check.shape(x, 0, 1, 20002);
        check.shape(x, 3, 20007);
    }

    private static void promise7EachAndJoin() {
        // Frames agree by their beginnings, cells likewise; the longer ones are the shape's.
        ShapeFrames x = check.told("shape 2 3 4;shape 2;each 0 1 0;each 1 0 0;shape 4;each 4 0 1;each 0 4 1;shape 3 4;each 7 0 -1");
        check.shape(x, 2, 2, 3, 4);
        check.shape(x, 3, 2, 3, 4);
        check.shape(x, 5, 2, 3, 4);
        check.shape(x, 6, 2, 3, 4);
        check.fails(x, 8, 1, 0, 3, 2);
        check.shape(x, 8, 3, 3, 4);
        // Of equal length the first one's.
        x = check.told("shape u v;shape 5 6;shape 1 2;each 0 1 1;program;shape 1 2;shape 3 4;each 1 0 1;join 1 0 1");
        check.shape(x, 2, 3, 4);
        check.shape(x, 3, 3, 20007);
        check.fails(x, 2, 1, 0, 3, 1);
        // One has the longer frame, the other the longer cell.
        x = check.told("shape 2;shape 7 8 9;join 0 0 0;shape 5 2;each 3 0 -2;each 0 3 1;join 0 3 2;join 0 3 -1");
        // Sums come behind all that must be equal, so the join's letter was not found.
        check.shape(x, 2, 2, 20006);
        check.shape(x, 4, 5, 2);
        check.fails(x, 4, 1, 0, 5, 2);
        x = check.told("shape 5 2;shape 2;each 0 1 1;each 1 0 1;join 0 1 1;join 1 0 1;join 1 0 2;join 0 1 3");
        check.shape(x, 2, 5, 2);
        check.shape(x, 3, 5, 2);
        check.shape(x, 4, 5, 4);
        check.shape(x, 5, 5, 4);
        check.shape(x, 6, 7, 2);
        check.shape(x, 7, 7, 2);
        // A cell without extents counts as one of the extent 1.
        x = check.told("shape;shape 3 4 5;join 0 0 0;join 0 0 3;join 0 1 3;join 1 0 2;join 1 1 0;join 1 1 -3;join 1 0 -1;join 1 1 -2");
        check.shape(x, 2, 2);
        check.shape(x, 3, 2);
        check.shape(x, 4, 4, 4, 5);
        check.shape(x, 5, 3, 5, 5);
        check.shape(x, 6, 3, 4, 5, 2);
        check.shape(x, 7, 3, 4, 5, 2);
        check.shape(x, 8, 3, 5, 5);
        check.shape(x, 9, 3, 4, 10);
        check.fails(x);
        // Behind their first extents the cells agree, told from axis 1 on.
        x = check.told("shape 3 4 5;shape 6 4 5;join 0 1 3;shape 6 4 9;join 0 3 3");
        check.shape(x, 2, 20006, 4, 5);
        check.fails(x, 4, 2, 2, 5, 9);
        x = check.told("shape 3 4 5;shape 3 7 5;shape 2 7 5;join 1 0 -1;join 2 0 2");
        check.shape(x, 3, 3, 20007, 5);
        check.fails(x, 4, 1, 0, 2, 3);
    }

    private static void promise7OtherVerbs() {
        ShapeFrames x = check.told("shape 2 3 4;turn 0 1;fold 0 0;fold 0 1;fold 0 2;fold 0 3;fold 0 -1;fold 0 -2;fold 0 -3");
        check.shape(x, 1, 2, 3, 4);
        check.shape(x, 2, 2, 3, 4);
        check.shape(x, 3, 2, 3);
        check.shape(x, 4, 2, 4);
        check.shape(x, 5, 3, 4);
        check.shape(x, 6, 2, 4);
        check.shape(x, 7, 2, 3);
        check.shape(x, 8, 2, 3, 4);
        x = check.told("shape 2 3 4;ravel 0 0;ravel 0 1;ravel 0 2;ravel 0 3;ravel 0 -1;ravel 0 -2;ravel 0 -3;shape;ravel 8 2");
        check.shape(x, 1, 2, 3, 4, 1);
        check.shape(x, 2, 2, 3, 4);
        check.shape(x, 3, 2, 12);
        check.shape(x, 4, 24);
        check.shape(x, 5, 2, 12);
        check.shape(x, 6, 2, 3, 4);
        check.shape(x, 7, 2, 3, 4, 1);
        check.shape(x, 9, 1);
        x = check.told("shape;fold 0 3;turn 0 -3;shape 4;fold 3 3;form 3 2 2;form 3 1 w 1;form 0 v;form 0");
        check.shape(x, 1);
        check.shape(x, 2);
        check.shape(x, 4);
        check.shape(x, 5, 2, 2);
        check.shape(x, 6, 1, 4, 1);
        check.shape(x, 7, 1);
        check.shape(x, 8);
        check.fails(x);
    }

    private static void promise8As() {
        ShapeFrames x = check.told("shape 2;each 0 0 0;join 0 0 0;turn 0 0;fold 0 0;ravel 0 0;form 0 2");
        // By node (which is of the kind of its number here), the kinds that it can be taken as.
        int[] kinds = {0, 1 + 2, 1 + 2 + 4, 1 + 8, 1 + 8 + 16, 1 + 8 + 16 + 32, 0};
        for (int node = 0; node < kinds.length; node++) {
            for (int kind = 0; kind <= 5; kind++) {
                boolean is = (kinds[node] >> kind & 1) == 1;
                check.due("as(" + node + ", " + kind + ")", x.as(node, kind), is ? 1 : NOT);
            }
            check.due("as(" + node + ", -1)", x.as(node, -1), OUTSIDE);
            check.due("as(" + node + ", 6)", x.as(node, 6), OUTSIDE);
        }
        check.due("as(7, 6)", x.as(7, 6), UNKNOWN);
        check.due("as(-1, 0)", x.as(-1, 0), UNKNOWN);
    }
}
