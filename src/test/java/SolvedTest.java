/** Promises 14 to 20: what the letters are, what fails, the ways, the odds, the mending. */
public final class SolvedTest {
    private static final int NONE = ShapeFrames.NONE, UNKNOWN = ShapeFrames.UNKNOWN, OUTSIDE = ShapeFrames.OUTSIDE,
        NOT = ShapeFrames.NOT;
    // v becomes 9720; the last but one has the shape letter, v, v, v and 2, then 2: more than a product may be.
    private static final String GREAT = "shape 9 9 8;form 0 w;shape w 9 5;form 2 v 3;shape %s v v;join 4 4 0;shape v;"
        + "join 5 6 1;%s;form 8 %s";
    private static final Check check = new Check("SolvedTest");

    public static void main(String[] args) {
        promise14Letter();
        promise14Sums();
        promise14Products();
        promise14RoundsAgain();
        promise15FailsByFramesAndCells();
        promise15FailsBySums();
        promise15FailsByProducts();
        promise15FailsByGreatProducts();
        promise15FailsFirst();
        promise16Open();
        promise17And18Ways();
        promise17And18GreatProducts();
        promise19Odds();
        promise20Mend();
        check.end();
    }

    private static void promise14Letter() {
        ShapeFrames x = check.told("shape u x;join 0 0 1;ravel 0 2;shape 4;each 1 3 1;turn 0 0;fold 0 0;form 3 v");
        check.due("letter(0)", x.letter(0), 20000);
        check.due("letter(1)", x.letter(1), 4);
        check.due("letter(2), which no node has", x.letter(2), 20002);
        // The join's letter is the sum of twice the same letter, so that is not found.
        check.due("letter(3)", x.letter(3), 20003);
        check.due("letter(5) of a join", x.letter(5), 4);
        check.due("letter(6) of a ravel", x.letter(6), 20006);
        int[] others = {4, 7, 8, 9, 10, 11, 12, 13, 14, 15, -1, 100, Integer.MAX_VALUE, Integer.MIN_VALUE};
        for (int other : others) {
            check.due("letter(" + other + ")", x.letter(other), UNKNOWN);
        }
        x.give(0, 3);
        x.give(3, 2);
        check.due("letter(6) behind give()", x.letter(6), 6);
        // Chains of alike letters: the least is told for all, a number reaches all.
        x = check.told("shape x;shape w;shape v;each 0 1 0;each 2 1 0");
        for (int letter = 1; letter <= 3; letter++) {
            check.due("letter(" + letter + ")", x.letter(letter), 20001);
        }
        check.due("letter(0)", x.letter(0), 20000);
        check.tell(x, "shape 6;each 0 5 0");
        for (int letter = 1; letter <= 3; letter++) {
            check.due("letter(" + letter + ")", x.letter(letter), 6);
        }
        x = check.told("shape v;shape u;each 0 1 0;shape 6;each 1 3 0");
        check.due("letter(0)", x.letter(0), 6);
        check.due("letter(1)", x.letter(1), 6);
        x = check.told("shape w;ravel 0 0;shape u v;each 2 1 0;shape x 1;each 4 2 0");
        check.due("letter(0)", x.letter(0), 20000);
        check.due("letter(2)", x.letter(2), 20000);
        check.due("letter(3)", x.letter(3), 20000);
        check.due("letter(5)", x.letter(5), 1);
        check.due("letter(1)", x.letter(1), 1);
        x = check.told("shape u v;shape w x;each 0 1 0;shape v u;each 3 1 0");
        for (int letter = 0; letter < 4; letter++) {
            check.due("letter(" + letter + ")", x.letter(letter), 20000);
        }
        x.give(2, 8);
        for (int letter = 0; letter < 4; letter++) {
            check.due("letter(" + letter + ")", x.letter(letter), 8);
        }
    }

    private static void promise14Sums() {
        ShapeFrames x = check.told("shape u;shape 4;join 0 1 1;shape 9;each 2 3 0");
        check.due("letter(0) by a sum", x.letter(0), 5);
        x = check.told("shape 4;shape u;join 0 1 1;shape 4;each 2 3 0");
        check.due("letter(0) by a sum", x.letter(0), 0);
        check.fails(x);
        x = check.told("shape u;shape v;join 0 1 1;shape 9;each 2 3 0");
        check.due("letter(0) beside another", x.letter(0), 20000);
        x.give(1, 9);
        check.due("letter(0)", x.letter(0), 0);
        // In it twice: it is not found, even if by only one number it could hold.
        x = check.told("shape u;join 0 0 1;shape 8;each 1 2 0");
        check.due("letter(0) twice in a sum", x.letter(0), 20000);
        check.fails(x);
        x = check.told("shape u;shape 3;join 0 1 1;each 2 0 0");
        check.due("letter(0) on both sides", x.letter(0), 20000);
        check.fails(x);
        x = check.told("shape u;shape v;each 0 1 0;join 0 1 1;shape 8;each 3 4 0");
        check.due("letter(0), twice by an alike one", x.letter(0), 20000);
        x.give(1, 4);
        check.fails(x);
        x.give(1, 5);
        check.fails(x, 3, 3, 0, 0, 0);
    }

    private static void promise14Products() {
        ShapeFrames x = check.told("shape 4 6;form 0 u 3;form 0 8 v;form 0 2 3 w");
        check.due("letter(0) by a product", x.letter(0), 8);
        check.due("letter(1) by a product", x.letter(1), 3);
        check.due("letter(2) by a product", x.letter(2), 4);
        x = check.told("shape u 6;form 0 4 9");
        check.due("letter(0) by a product", x.letter(0), 6);
        x = check.told("shape u 6;ravel 0 2;shape 0;each 1 2 0");
        check.due("letter(0) by a product of nought", x.letter(0), 0);
        // A nought leaves the letter as it is.
        x = check.told("shape u 0;form 0 0 7;ravel 0 2");
        check.due("letter(0) beside a nought", x.letter(0), 20000);
        check.due("letter(6), a product of nought with a letter in it", x.letter(6), 20006);
        check.fails(x);
        x = check.told("shape u 0;form 0 0");
        check.due("letter(0), both products being nought", x.letter(0), 20000);
        check.fails(x);
        // Twice in it, on one side or on both.
        x = check.told("shape u u;form 0 9");
        check.due("letter(0) twice in a product", x.letter(0), 20000);
        check.fails(x);
        x.give(0, 3);
        check.fails(x);
        x.give(0, 2);
        check.fails(x, 1, 4, 0, 0, 0);
        x = check.told("shape u 3;form 0 u 4");
        check.due("letter(0) on both sides", x.letter(0), 20000);
        check.fails(x);
        // Without extents a product is 1.
        x = check.told("shape;form 0 u v;shape w;form 2");
        check.due("letter(0)", x.letter(0), 20000);
        check.due("letter(2)", x.letter(2), 1);
        x.give(0, 1);
        check.due("letter(1)", x.letter(1), 1);
        x = check.told("shape 9 9 9;ravel 0 3;join 1 1 1;shape 9 9;form 3 u;shape u 9;ravel 5 2");
        check.due("letter(0)", x.letter(0), 81);
        check.due("letter(6)", x.letter(6), 1458);
        check.due("letter(10)", x.letter(10), 729);
    }

    private static void promise14RoundsAgain() {
        // Each is found only by one that comes behind it, so that it takes a round for each.
        ShapeFrames x = check.told("shape u v;form 0 w 6;shape v w;form 2 x 6;shape x;form 4 8;shape w;form 6 4");
        check.due("letter(3)", x.letter(3), 8);
        check.due("letter(2)", x.letter(2), 4);
        check.due("letter(1)", x.letter(1), 12);
        check.due("letter(0)", x.letter(0), 2);
        check.fails(x);
        // What is found reaches all that are alike, and the sum that was passed by.
        x = check.told("shape u;shape v;join 0 1 1;shape w;each 2 3 0;shape 2;join 5 0 1;shape 7;each 6 7 0;form 3 9");
        check.due("letter(0)", x.letter(0), 5);
        check.due("letter(2)", x.letter(2), 9);
        check.due("letter(1)", x.letter(1), 4);
        check.due("letter(6)", x.letter(6), 9);
    }

    private static void promise15FailsByFramesAndCells() {
        ShapeFrames x = check.told("shape 3 u;shape 3 4");
        check.due("fails(-1)", x.fails(-1), OUTSIDE);
        check.due("fails(5)", x.fails(5), OUTSIDE);
        check.fails(x);
        x = check.told("shape 2 3 4;shape 2 5 4;each 0 1 0");
        check.fails(x, 2, 1, 1, 3, 5);
        x = check.told("shape 2 3 4;shape 2 5 4;each 1 0 2");
        check.fails(x, 2, 2, 0, 5, 3);
        x = check.told("shape 2 3 4;shape 2 3 9;each 1 0 2");
        check.fails(x, 2, 2, 1, 9, 4);
        x = check.told("shape 2 3 4;shape 3 4;each 0 1 2");
        check.fails(x);
        x = check.told("shape 2 3 4;shape 2 4;each 0 1 2");
        check.fails(x, 2, 2, 0, 3, 2);
        // Frames come ahead of cells.
        x = check.told("shape 1 7;shape 2 8;each 0 1 1");
        check.fails(x, 2, 1, 0, 1, 2);
        x = check.told("shape 1 7;shape 2 8;join 0 1 1");
        check.fails(x, 2, 1, 0, 1, 2);
        // Letters fail by the numbers that they are.
        x = check.told("shape u u;shape 3 4;each 1 0 -2");
        check.fails(x, 2, 1, 1, 4, 3);
        x = check.told("shape u;shape v;each 0 1 0;shape 0;each 3 0 0");
        x.give(1, 1);
        check.fails(x, 4, 1, 0, 0, 1);
        x.give(0, 2);
        check.fails(x, 2, 1, 0, 2, 1);
        // Of a join's cells from 1 on, the first ones being free.
        x = check.told("shape 1 2;shape 7 3;join 0 1 2;shape 1 2 3;shape 5 6 7;join 3 4 -1");
        check.fails(x, 2, 2, 1, 2, 3);
        x = check.told("shape 1 2 3;shape 1 6 7;join 0 1 -1");
        check.fails(x, 2, 2, 1, 3, 7);
        x = check.told("shape 1 2 3;shape 1 6 3;join 0 1 -1");
        check.fails(x);
        // Other verbs meet nothing.
        x = check.told("shape 1 2 3;turn 0 1;fold 0 1;ravel 0 1");
        check.fails(x);
    }

    private static void promise15FailsBySums() {
        ShapeFrames x = check.told("shape 3;shape 4;join 0 1 1;shape 9;each 2 3 0");
        check.fails(x, 2, 3, 0, 0, 0);
        x = check.told("shape u;shape 4;join 0 1 1;shape 3;each 2 3 0");
        check.fails(x, 2, 3, 0, 0, 0);
        check.due("letter(0)", x.letter(0), 20000);
        check.due("extent(2, 0)", x.extent(2, 0), 3);
        // 9999 is not too much, 10000 is.
        x = check.told("shape 7 7 7;form 0 u;shape u 9;ravel 2 2;shape 8 8 9;form 4 v;shape v 6 2;ravel 6 3;join 3 7 1");
        check.fails(x);
        check.due("extent(8, 0)", x.extent(8, 0), 9999);
        check.due("letter(12)", x.letter(12), 9999);
        check.tell(x, "form 8 x");
        check.fails(x);
        check.due("letter(3)", x.letter(3), 9999);
        x = check.told("shape 5 5 5;form 0 w;shape w 8 5;ravel 2 3;join 3 3 1");
        check.fails(x, 4, 3, 0, 0, 0);
        check.due("extent(3, 0)", x.extent(3, 0), 5000);
        check.due("extent(4, 0)", x.extent(4, 0), 20008);
    }

    private static void promise15FailsByProducts() {
        ShapeFrames x = check.told("shape 2 3;form 0 7");
        check.fails(x, 1, 4, 0, 0, 0);
        x = check.told("shape 2 3;form 0 4 u");
        check.fails(x, 1, 4, 0, 0, 0);
        check.due("letter(0)", x.letter(0), 20000);
        x = check.told("shape 2 3;form 0 0 u");
        check.fails(x, 1, 4, 0, 0, 0);
        x = check.told("shape u 0;form 0 2 3");
        check.fails(x, 1, 4, 0, 0, 0);
        x = check.told("shape 2 0;form 0 3");
        check.fails(x, 1, 4, 0, 0, 0);
        x = check.told("shape 2;form 0");
        check.fails(x, 1, 4, 0, 0, 0);
        x = check.told("shape 1 1;form 0");
        check.fails(x);
        x = check.told("shape 2 3;ravel 0 2;shape 5;each 1 2 0");
        check.fails(x, 1, 4, 0, 0, 0);
        x = check.told("shape 2 u;ravel 0 2;shape 5;each 1 2 0");
        check.fails(x, 1, 4, 0, 0, 0);
        // 9800 is not too much, 10000 is; whether it is a ravel's letter or a form's.
        x = check.told("shape 7 7;form 0 u;shape 5 5;form 2 w;shape u w 8;ravel 4 3;form 4 x");
        check.fails(x);
        check.due("letter(3)", x.letter(3), 9800);
        check.due("letter(9)", x.letter(9), 9800);
        x = check.told("shape 5 5;form 0 u;shape 4 4;form 2 w;shape u u w;ravel 4 3");
        check.fails(x, 5, 4, 0, 0, 0);
        x = check.told("shape 5 5;form 0 u;shape 4 4;form 2 w;shape u u w;form 4 x");
        check.fails(x, 5, 4, 0, 0, 0);
        x = check.told("shape 5 5;form 0 u;shape 4 4;form 2 w;shape u u w;form 4 x 2");
        check.due("letter(3)", x.letter(3), 5000);
    }

    private static void promise15FailsByGreatProducts() {
        ShapeFrames x = check.told(String.format(GREAT, "u", "join 7 7 0", "x"));
        check.shape(x, 8, 20000, 9720, 9720, 9722, 2);
        check.fails(x);
        x.give(3, 0);
        check.fails(x, 9, 4, 0, 0, 0);
        x.give(0, 0);
        check.fails(x);
        x.give(0, 1);
        check.fails(x, 9, 4, 0, 0, 0);
        x.free(3);
        check.fails(x, 9, 4, 0, 0, 0);
        // Just below, the letter becomes nought.
        x = check.told(String.format(GREAT, "u", "ravel 7 0", "x"));
        check.shape(x, 8, 20000, 9720, 9720, 9722, 1);
        x.give(3, 0);
        check.fails(x);
        check.due("letter(0)", x.letter(0), 0);
    }

    private static void promise15FailsFirst() {
        // All that must be equal comes ahead of sums and products, also of earlier nodes.
        ShapeFrames x = check.told("shape 2;form 0 3;shape 4;each 0 2 0");
        check.fails(x, 3, 1, 0, 2, 4);
        x = check.told("shape 2;form 0 3;shape 4;form 2 5");
        check.fails(x, 1, 4, 0, 0, 0);
        // In the first round the later one fails, since the earlier cannot be looked at yet.
        x = check.told("shape u v;form 0 7;shape v;form 2 0;shape 2;form 4 3");
        check.fails(x, 5, 4, 0, 0, 0);
        check.due("letter(1)", x.letter(1), 0);
        x = check.told("shape u v;form 0 7;shape v;form 2 0");
        check.fails(x, 1, 4, 0, 0, 0);
        x = check.told("shape 3;shape 4;join 0 1 1;form 2 5;shape 9;each 2 4 0");
        check.fails(x, 2, 3, 0, 0, 0);
    }

    private static void promise16Open() {
        ShapeFrames x = check.told("shape");
        check.due("open() without letters", x.open(), 0);
        x = check.told("shape u w;join 0 0 1");
        check.due("open()", x.open(), 5);
        x.give(2, 0);
        check.due("open() behind give()", x.open(), 1);
        x.free(2);
        check.due("open() behind free()", x.open(), 5);
        x = check.told("shape x;shape v;each 0 1 0");
        check.due("open() of alike ones", x.open(), 2);
        x = check.told("shape x 2;form 0 w");
        check.due("open() of a form's", x.open(), 12);
        x.give(3, 3);
        check.due("open(), all being found", x.open(), 0);
        x = check.told("shape 1 u;shape 2 v;each 0 1 0;shape u");
        check.due("open() where it fails", x.open(), 3);
        x = check.told("shape 2 2;ravel 0 2;join 1 1 1");
        check.due("open(), nodes' letters being none", x.open(), 0);
    }

    private static void ways(ShapeFrames x, int ways, int first0, int first1, int first2, int first3) {
        check.due("ways()", x.ways(), ways);
        check.due("way(0)", x.way(0), first0);
        check.due("way(1)", x.way(1), first1);
        check.due("way(2)", x.way(2), first2);
        check.due("way(3)", x.way(3), first3);
    }

    private static void promise17And18Ways() {
        ShapeFrames x = check.told("shape u v;form 0 8");
        ways(x, 4, 1, 8, NOT, NOT);
        x.give(0, 3);
        check.due("open()", x.open(), 2);
        ways(x, 0, NOT, NONE, NOT, NOT);
        x.give(0, 4);
        ways(x, 1, NOT, NOT, NOT, NOT);
        check.due("way(-1)", x.way(-1), UNKNOWN);
        check.due("way(4)", x.way(4), UNKNOWN);
        check.due("way(5)", x.way(5), UNKNOWN);
        check.due("count(1) behind all that", x.count(1), 1);
        check.due("count(4) behind all that", x.count(4), 2);
        x = check.told("shape u v;form 0 9 9;shape u;form 2 w 1");
        ways(x, 1, 9, 9, 9, NOT);
        // What would do is above 9: there is no way, though nothing fails as it is.
        x = check.told("shape 9 9 2;form 0 u v");
        ways(x, 0, NONE, NONE, NOT, NOT);
        check.fails(x);
        check.due("odds(0)", x.odds(0), 0);
        check.due("odds(1)", x.odds(1), 1);
        // Letters that nothing asks about are free; alike ones count once.
        x = check.told("shape u v;shape w x");
        ways(x, 10000, 0, 0, 0, 0);
        x = check.told("shape u v;shape w x;each 0 1 0");
        ways(x, 100, 0, 0, NOT, NOT);
        x = check.told("shape v x;form 0 w 4");
        // One of both nought, or a product of 4 times 1 to 9.
        ways(x, 19 + 27, NOT, 0, 0, 0);
        // The least number for the least letter first.
        x = check.told("shape u v w;form 0 6;shape x");
        ways(x, 90, 1, 1, 6, 0);
        x = check.told("shape u;shape v;join 0 1 1;shape 9;each 2 3 0;shape w x");
        ways(x, 1000, 0, 9, 0, 0);
        x = check.told("shape u;shape v;join 0 1 1;shape w;each 2 3 0");
        ways(x, 55, 0, 0, 0, NOT);
        x = check.told("shape u u;form 0 x");
        ways(x, 4, 0, NOT, NOT, 0);
        // Whichever is asked first.
        check.due("way(1)", check.told("shape u v;form 0 8").way(1), 8);
        check.due("odds(1)", check.told("shape u v;form 0 8").odds(1), 25);
        // Twice in a sum: not found, but by the ways.
        x = check.told("shape u;join 0 0 1;shape 8;each 1 2 0");
        ways(x, 1, 4, NOT, NOT, NOT);
        x = check.told("shape u;join 0 0 1;shape 7;each 1 2 0");
        ways(x, 0, NONE, NOT, NOT, NOT);
        check.fails(x);
    }

    private static void promise17And18GreatProducts() {
        // It fails with the one letter unknown, but holds with it nought.
        ShapeFrames x = check.told(String.format(GREAT, "u", "join 7 7 0", "x"));
        check.due("open()", x.open(), 9);
        ways(x, 1, 0, NOT, NOT, 0);
        x = check.told(String.format(GREAT, "x", "join 7 7 0", "u"));
        ways(x, 1, 0, NOT, NOT, 0);
        x.give(0, 0);
        ways(x, 0, NOT, NOT, NOT, NONE);
        x = check.told(String.format(GREAT, "x", "ravel 7 0", "u"));
        ways(x, 1, 0, NOT, NOT, 0);
    }

    private static void odds(ShapeFrames x, int above, int below) {
        check.due("odds(0)", x.odds(0), above);
        check.due("odds(1)", x.odds(1), below);
    }

    private static void promise19Odds() {
        ShapeFrames x = check.told("shape");
        odds(x, 1, 1);
        check.due("odds(-1)", x.odds(-1), OUTSIDE);
        check.due("odds(2)", x.odds(2), OUTSIDE);
        odds(check.told("shape u v w"), 1, 1);
        odds(check.told("shape u v;form 0 8"), 1, 25);
        odds(check.told("shape u v;form 0 7"), 1, 50);
        odds(check.told("shape u v;form 0 6;shape w"), 1, 25);
        odds(check.told("shape u;shape v;join 0 1 1;shape w;each 2 3 0"), 11, 200);
        odds(check.told("shape v x;form 0 w 4"), 23, 500);
        odds(check.told("shape u 2;form 0 3"), 0, 1);
        odds(check.told("shape 2;shape 3;each 0 1 0;shape u"), 0, 1);
        x = check.told("shape u u;form 0 9");
        odds(x, 1, 10);
        x.give(0, 3);
        odds(x, 1, 1);
        x.give(0, 4);
        odds(x, 0, 1);
        x.undo();
        odds(x, 1, 1);
        x.undo();
        odds(x, 1, 10);
    }

    private static void promise20Mend() {
        check.due("mend() of nothing", new ShapeFrames().mend(), NONE);
        check.due("mend(), nothing failing", check.told("shape 3;shape 3;each 0 1 0").mend(), NONE);
        check.due("mend()", check.told("shape 3;shape 4;each 0 1 0").mend(), 4);
        check.due("mend()", check.told("shape 3;shape 9;each 0 1 0").mend(), 9);
        check.due("mend()", check.told("shape 3;shape 0;each 0 1 0").mend(), 0);
        check.due("mend()", check.told("shape u u;shape 3 4;each 0 1 1").mend(), 3);
        check.due("mend()", check.told("shape 2 3;shape 2 4;each 0 1 0;fold 2 1;shape 2;each 3 4 0").mend(), 14);
        // By an axis of a later node, through the verbs that hold its extents.
        check.due("mend()", check.told("shape 3;shape 3;each 0 1 0;shape 7 4;fold 3 2;shape 5;each 5 4 0;turn 0 0").mend(), 315);
        check.due("mend()", check.told("shape 2 3;turn 0 0;shape 2;each 1 2 0;shape 5;each 3 4 1;shape 2;each 3 6 0").mend(), 15);
        // Of a form; of several the least.
        check.due("mend()", check.told("shape 2 3;form 0 7").mend(), 106);
        check.due("mend()", check.told("shape 2 3;form 0 8").mend(), 14);
        check.due("mend()", check.told("shape 7;turn 0 0;shape 9 9;form 2 5 5").mend(), NONE);
        check.due("mend()", check.told("shape 5;turn 0 0;shape 9 9;form 2 9 5").mend(), 205);
        check.due("mend()", check.told("shape 5 5;form 0 0 u").mend(), 0);
        check.due("mend()", check.told("shape 2 5;form 0 3 u").mend(), 0);
        // Two that fail apart cannot be put right by one.
        check.due("mend()", check.told("shape 3;shape 4;each 0 1 0;shape 5;shape 6;each 3 4 0").mend(), NONE);
        // What is given stays given, but a letter told as a number at one place is no more that letter there.
        ShapeFrames x = check.told("shape u;shape 3;each 0 1 0;shape u;each 3 3 0");
        check.due("mend(), nothing failing", x.mend(), NONE);
        x.give(0, 4);
        check.due("mend() with a letter given", x.mend(), 3);
        check.fails(x, 2, 1, 0, 4, 3);
        check.shape(x, 0, 4);
        x = check.told("shape u;shape 3;each 0 1 0;shape u;each 3 1 0");
        x.give(0, 4);
        check.due("mend() with a letter given", x.mend(), 104);
        x.free(0);
        check.due("mend() with the letter free", x.mend(), NONE);
        check.due("mend(), a sum", check.told("shape 3;shape 4;join 0 1 1;shape 9;each 2 3 0").mend(), 5);
    }
}
