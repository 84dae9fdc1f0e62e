/** Promises 9 to 13: letters given, freed, undone, kept. */
public final class GivenTest {
    private static final int UNKNOWN = ShapeFrames.UNKNOWN, OUTSIDE = ShapeFrames.OUTSIDE, NOT = ShapeFrames.NOT;
    private static final Check check = new Check("GivenTest");

    public static void main(String[] args) {
        promise9Give();
        promise10Free();
        promise11Undo();
        promise11UndoesTheLastEight();
        promise12Keep();
        promise13Back();
        check.end();
    }

    private static void promise9Give() {
        ShapeFrames x = check.told("shape u v;ravel 0 2;join 0 0 1");
        check.due("give(0, 0)", x.give(0, 0), 1);
        check.due("letter(0)", x.letter(0), 0);
        check.due("give(0, 0) again", x.give(0, 0), NOT);
        check.due("count(4) behind what was refused", x.count(4), 1);
        check.due("give(0, 9)", x.give(0, 9), 1);
        check.due("letter(0)", x.letter(0), 9);
        check.due("give(1, 9)", x.give(1, 9), 2);
        check.due("extent(1, 0)", x.extent(1, 0), 81);
        check.due("give(3, 5), which no node has", x.give(3, 5), 3);
        check.due("give(2, 5), which no node has", x.give(2, 5), 4);
        check.due("letter(3)", x.letter(3), 5);
        check.due("count(1)", x.count(1), 15);
        check.due("give(0, 10)", x.give(0, 10), OUTSIDE);
        check.due("give(0, -1)", x.give(0, -1), OUTSIDE);
        check.due("give(4, 0)", x.give(4, 0), UNKNOWN);
        check.due("give(4, 10)", x.give(4, 10), UNKNOWN);
        check.due("give(5, 1), a node's own letter", x.give(5, 1), UNKNOWN);
        check.due("give(6, 1), a node's own letter", x.give(6, 1), UNKNOWN);
        check.due("give(-1, 0)", x.give(-1, 0), UNKNOWN);
        check.due("give(Integer.MIN_VALUE, 0)", x.give(Integer.MIN_VALUE, 0), UNKNOWN);
        check.due("letter(0) behind what was refused", x.letter(0), 9);
        check.due("count(4) behind what was refused", x.count(4), 5);
        // A found number is not a given one.
        x = check.told("shape u;shape 3;each 0 1 0");
        check.due("letter(0) that is found", x.letter(0), 3);
        check.due("give(0, 3)", x.give(0, 3), 1);
        check.fails(x);
        check.due("give(0, 4)", x.give(0, 4), 1);
        check.fails(x, 2, 1, 0, 4, 3);
    }

    private static void promise10Free() {
        ShapeFrames x = check.told("shape u v;ravel 0 2");
        check.due("free(0) of none given", x.free(0), NOT);
        x.give(0, 2);
        x.give(1, 3);
        x.give(3, 0);
        check.due("extent(1, 0)", x.extent(1, 0), 6);
        check.due("free(0)", x.free(0), 2);
        check.due("extent(1, 0)", x.extent(1, 0), 20005);
        check.due("letter(0)", x.letter(0), 20000);
        check.due("free(0) again", x.free(0), NOT);
        check.due("free(3)", x.free(3), 1);
        check.due("count(1)", x.count(1), 2);
        check.due("free(4)", x.free(4), UNKNOWN);
        check.due("free(5), a node's own letter", x.free(5), UNKNOWN);
        check.due("free(-1)", x.free(-1), UNKNOWN);
        check.due("count(4) behind what was refused", x.count(4), 5);
        check.due("free(1)", x.free(1), 0);
    }

    private static void promise11Undo() {
        ShapeFrames x = check.told("shape u;ravel 0 1");
        check.due("undo() of nothing", x.undo(), NOT);
        x.give(0, 2);
        x.give(0, 7);
        x.give(1, 1);
        x.free(0);
        check.due("extent(1, 0)", x.extent(1, 0), 20000 + 5);
        check.due("undo() of free()", x.undo(), 3);
        check.due("extent(1, 0)", x.extent(1, 0), 7);
        check.due("count(1)", x.count(1), 3);
        check.due("undo() of a first give()", x.undo(), 2);
        check.due("count(1)", x.count(1), 1);
        check.due("undo() of a second give()", x.undo(), 1);
        check.due("letter(0)", x.letter(0), 2);
        check.due("extent(1, 0)", x.extent(1, 0), 2);
        check.due("undo()", x.undo(), 0);
        check.due("letter(0)", x.letter(0), 20000);
        check.due("undo() once more", x.undo(), NOT);
        // What is undone is no more there to be undone, and giving anew goes on from there.
        x.give(0, 2);
        x.give(0, 3);
        x.undo();
        x.give(0, 4);
        check.due("count(4)", x.count(4), 2);
        check.due("undo()", x.undo(), 1);
        check.due("letter(0)", x.letter(0), 2);
    }

    private static void promise11UndoesTheLastEight() {
        ShapeFrames x = new ShapeFrames();
        for (int v = 0; v <= 9; v++) {
            x.give(0, v);
            check.due("count(4)", x.count(4), Math.min(v + 1, 8));
        }
        x.free(0);
        for (int left = 7; left >= 0; left--) {
            check.due("undo()", x.undo(), left);
            check.due("letter(0) with " + left + " left", x.letter(0), left + 2);
        }
        check.due("undo() of more than eight", x.undo(), NOT);
        check.due("letter(0)", x.letter(0), 2);
        // The same with letters that take turns.
        x = new ShapeFrames();
        for (int i = 0; i < 11; i++) {
            x.give(i % 3, i % 10);
        }
        for (int i = 10; i > 2; i--) {
            check.due("undo()", x.undo(), i - 3);
            check.due("letter(" + i % 3 + ")", x.letter(i % 3), i - 3);
        }
        check.due("undo() of more than eight", x.undo(), NOT);
    }

    private static void promise12Keep() {
        ShapeFrames x = new ShapeFrames();
        check.due("keep(0) of none", x.keep(0), 0);
        x.give(1, 6);
        x.give(2, 0);
        check.due("keep(1)", x.keep(1), 2);
        check.due("count(4) behind keep()", x.count(4), 2);
        check.due("undo() behind keep()", x.undo(), 1);
        check.due("keep(2)", x.keep(2), UNKNOWN);
        check.due("keep(-1)", x.keep(-1), UNKNOWN);
        check.due("back(1)", x.back(1), 2);
        // Keeping again puts the new in the old one's place.
        x.give(3, 1);
        check.due("keep(1) again", x.keep(1), 3);
        x.free(1);
        check.due("back(1)", x.back(1), 3);
        check.due("letter(3)", x.letter(3), 1);
        check.due("back(0)", x.back(0), 0);
    }

    private static void promise13Back() {
        ShapeFrames x = check.told("shape u v;shape 3;each 0 1 0");
        check.due("back(0) of nothing kept", x.back(0), NOT);
        check.due("back(2)", x.back(2), UNKNOWN);
        check.due("back(-1)", x.back(-1), UNKNOWN);
        x.give(0, 4);
        x.give(3, 8);
        x.keep(0);
        check.due("back(1) of nothing kept", x.back(1), NOT);
        check.due("count(4) behind what was refused", x.count(4), 2);
        x.free(0);
        x.give(1, 5);
        x.give(3, 7);
        check.fails(x);
        check.due("back(0)", x.back(0), 2);
        check.fails(x, 2, 1, 0, 4, 3);
        check.due("letter(0)", x.letter(0), 4);
        check.due("letter(1)", x.letter(1), 20001);
        check.due("letter(3)", x.letter(3), 8);
        check.due("count(4) behind back()", x.count(4), 0);
        check.due("undo() behind back()", x.undo(), NOT);
        x.give(0, 1);
        check.due("back(0) a second time", x.back(0), 2);
        check.due("letter(0)", x.letter(0), 4);
        check.tell(x, "turn 0 0");
        check.due("back(0) behind another text", x.back(0), NOT);
    }
}
