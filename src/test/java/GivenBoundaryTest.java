/** The boundary cases of LETTERS GIVEN, freed, undone and kept: promises 9 to 13, sentence by sentence. */
public final class GivenBoundaryTest {
    private static final int UNKNOWN = ShapeFrames.UNKNOWN, OUTSIDE = ShapeFrames.OUTSIDE, NOT = ShapeFrames.NOT;
    private static final int[] NO_LETTER = {-1, 4, 5, 13, 14, 100, Integer.MAX_VALUE, Integer.MIN_VALUE};
    private static final Check check = new Check("GivenBoundaryTest");

    public static void main(String[] args) {
        givenANumber();
        itIsThat();
        givenNoMore();
        theLastEight();
        whatCountsAsOneToUndo();
        keptTwice();
        asItWasKept();
        sinceTheLastText();
        check.end();
    }

    private static void givenANumber() {
        check.says("A LETTER of 0 .. 3 may be GIVEN a number (0 .. 9; none is at first).");
        check.says("A LETTER (0 .. 3) is GIVEN a number (0 .. 9), or another one: how many are GIVEN. UNKNOWN; OUTSIDE; NOT: it is that.");
        ShapeFrames x = new ShapeFrames();
        for (int letter = 0; letter < 4; letter++) {
            for (int v = 0; v <= 9; v++) {
                check.due("give(" + letter + ", " + v + ")", x.give(letter, v), letter + 1);
                check.due("letter(" + letter + ")", x.letter(letter), v);
                check.due("count(1)", x.count(1), (2 << letter) - 1);
            }
        }
        int[] outside = {-1, 10, 11, 9999, Integer.MAX_VALUE, Integer.MIN_VALUE};
        for (int v : outside) {
            check.due("give(0, " + v + ")", x.give(0, v), OUTSIDE);
            check.due("give(3, " + v + ")", x.give(3, v), OUTSIDE);
        }
        for (int letter : NO_LETTER) {
            check.due("give(" + letter + ", 0)", x.give(letter, 0), UNKNOWN);
            check.due("give(" + letter + ", 10)", x.give(letter, 10), UNKNOWN);
        }
        check.due("count(1)", x.count(1), 15);
        check.due("count(4)", x.count(4), 8);
        check.due("letter(0)", x.letter(0), 9);
    }

    private static void itIsThat() {
        check.says("NOT: it is that.");
        ShapeFrames x = check.told("shape u;shape 3;each 0 1 0");
        // It is 3, but not given so.
        check.due("give(0, 3)", x.give(0, 3), 1);
        check.due("give(0, 3) again", x.give(0, 3), NOT);
        check.due("give(1, 0)", x.give(1, 0), 2);
        check.due("give(1, 0) again", x.give(1, 0), NOT);
        check.due("count(4)", x.count(4), 2);
        check.due("free(1)", x.free(1), 1);
        check.due("give(1, 0), being free", x.give(1, 0), 2);
        check.due("undo()", x.undo(), 3);
        check.due("give(1, 0), being free", x.give(1, 0), 2);
        check.due("give(0, 10)", x.give(0, 10), OUTSIDE);
    }

    private static void givenNoMore() {
        check.says("A LETTER is GIVEN no more: how many are yet. UNKNOWN; NOT: it was not.");
        ShapeFrames x = new ShapeFrames();
        for (int letter = 0; letter < 4; letter++) {
            check.due("free(" + letter + ")", x.free(letter), NOT);
            x.give(letter, 0);
        }
        for (int letter = 0; letter < 4; letter++) {
            check.due("free(" + letter + ")", x.free(letter), 3 - letter);
            check.due("free(" + letter + ") again", x.free(letter), NOT);
            check.due("letter(" + letter + ")", x.letter(letter), 20000 + letter);
        }
        for (int letter : NO_LETTER) {
            check.due("free(" + letter + ")", x.free(letter), UNKNOWN);
        }
        check.due("count(4)", x.count(4), 8);
        // One that is found is not given.
        x = check.told("shape u;shape 3;each 0 1 0");
        check.due("free(0)", x.free(0), NOT);
    }

    private static void theLastEight() {
        check.says("The latest give(), free() is undone (the last 8 can be): how many can be undone yet. NOT: none.");
        for (int changes = 0; changes <= 20; changes++) {
            ShapeFrames x = new ShapeFrames();
            for (int i = 1; i <= changes; i++) {
                if (i % 4 == 0) {
                    x.free(0);
                } else {
                    x.give(0, i % 10);
                }
                check.due("count(4)", x.count(4), Math.min(i, 8));
            }
            int left = Math.min(changes, 8);
            for (int i = changes; i > changes - Math.min(changes, 8); i--) {
                left--;
                check.due("undo() of " + changes, x.undo(), left);
                int before = i - 1;
                boolean free = before % 4 == 0;
                check.due("letter(0) as behind " + before, x.letter(0), free ? 20000 : before % 10);
                check.due("count(1) as behind " + before, x.count(1), free ? 0 : 1);
            }
            check.due("undo() of none", x.undo(), NOT);
            check.due("undo() of none again", x.undo(), NOT);
            check.due("count(4)", x.count(4), 0);
        }
        // Undone ones make room: eight can be undone again, no more.
        ShapeFrames x = new ShapeFrames();
        for (int v = 0; v < 8; v++) {
            x.give(1, v);
        }
        x.undo();
        x.undo();
        for (int v = 0; v < 3; v++) {
            x.give(2, v);
        }
        check.due("count(4)", x.count(4), 8);
        for (int left = 7; left >= 0; left--) {
            check.due("undo()", x.undo(), left);
        }
        // The very first give() was the ninth from behind.
        check.due("letter(1)", x.letter(1), 0);
        check.due("letter(2)", x.letter(2), 20002);
        check.due("undo()", x.undo(), NOT);
    }

    private static void whatCountsAsOneToUndo() {
        check.says("The latest give(), free() is undone");
        ShapeFrames x = new ShapeFrames();
        x.give(0, 1);
        // What is refused, and what is neither of both, is none to undo.
        x.give(0, 1);
        x.give(0, 10);
        x.give(4, 1);
        x.free(1);
        x.free(4);
        x.keep(0);
        x.seen(1, 1, 1);
        x.row(0, 0, 1);
        x.write('u');
        x.back(1);
        x.program();
        check.due("count(4)", x.count(4), 1);
        check.due("undo()", x.undo(), 0);
        check.due("count(1)", x.count(1), 0);
        check.due("undo()", x.undo(), NOT);
    }

    private static void keptTwice() {
        check.says("What is GIVEN now is kept (k 0, 1): how many are. UNKNOWN: no such k.");
        ShapeFrames x = new ShapeFrames();
        int[] unknown = {-1, 2, 3, Integer.MAX_VALUE, Integer.MIN_VALUE};
        for (int k : unknown) {
            check.due("keep(" + k + ")", x.keep(k), UNKNOWN);
            check.due("back(" + k + ")", x.back(k), UNKNOWN);
        }
        check.due("keep(0) of none", x.keep(0), 0);
        for (int letter = 0; letter < 4; letter++) {
            x.give(letter, letter);
            check.due("keep(1)", x.keep(1), letter + 1);
        }
        check.due("count(4) behind keep()", x.count(4), 4);
        check.due("back(0)", x.back(0), 0);
        check.due("count(1)", x.count(1), 0);
        check.due("back(1)", x.back(1), 4);
        check.due("count(1)", x.count(1), 15);
        for (int letter = 0; letter < 4; letter++) {
            check.due("letter(" + letter + ")", x.letter(letter), letter);
        }
    }

    private static void asItWasKept() {
        check.says("It is as it was kept, nothing can be undone: how many are GIVEN. UNKNOWN; NOT: nothing was kept since the last text.");
        ShapeFrames x = new ShapeFrames();
        check.due("back(0)", x.back(0), NOT);
        x.give(2, 9);
        check.due("back(1)", x.back(1), NOT);
        check.due("count(4) behind what was refused", x.count(4), 1);
        x.keep(1);
        check.due("back(0), the other one being kept", x.back(0), NOT);
        x.give(2, 0);
        x.give(0, 5);
        check.due("back(1)", x.back(1), 1);
        check.due("letter(2)", x.letter(2), 9);
        check.due("letter(0)", x.letter(0), 20000);
        check.due("count(4)", x.count(4), 0);
        check.due("undo()", x.undo(), NOT);
        // What is done later does not reach what was kept, and it can be gone back to again.
        x.give(2, 1);
        x.free(2);
        check.due("back(1)", x.back(1), 1);
        check.due("letter(2)", x.letter(2), 9);
        check.due("back(1) again", x.back(1), 1);
        // Undoing reaches back to it, and no farther.
        x.give(3, 3);
        check.due("undo()", x.undo(), 0);
        check.due("undo()", x.undo(), NOT);
        check.due("count(1)", x.count(1), 4);
    }

    private static void sinceTheLastText() {
        check.says("NOT: nothing was kept since the last text.");
        ShapeFrames x = new ShapeFrames();
        x.keep(0);
        x.give(1, 1);
        x.keep(1);
        Check.write(x, "shape y");
        check.due("program() with a fault", x.program(), NOT);
        check.due("back(0)", x.back(0), 0);
        check.due("back(1)", x.back(1), 1);
        x.erase();
        check.tell(x, "shape u");
        check.due("back(0)", x.back(0), NOT);
        check.due("back(1)", x.back(1), NOT);
        check.due("keep(0)", x.keep(0), 0);
        check.due("back(0)", x.back(0), 0);
        check.due("back(1)", x.back(1), NOT);
    }
}
