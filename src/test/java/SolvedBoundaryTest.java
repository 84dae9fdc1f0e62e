/** The boundary cases of SOLVED, FAILING, OPEN, WAYS, ODDS and MEND: promises 14 to 20 and sections 2 and 3, sentence by sentence. */
public final class SolvedBoundaryTest {
    private static final int NONE = ShapeFrames.NONE, UNKNOWN = ShapeFrames.UNKNOWN, OUTSIDE = ShapeFrames.OUTSIDE,
        NOT = ShapeFrames.NOT;
    // 9 times 11 times 101, of which 11 and 101 are sums; the last node is left to be told.
    private static final String TO_9999 = "shape 9;shape 2;join 0 1 1;form 2 u;shape u 9;ravel 4 2;join 5 1 1;form 6 v;shape u 9 v;";
    // 100 times 100; two nodes are left.
    private static final String TO_10000 = "shape 4 5 5;form 0 u;shape u u;";
    // Beside u the last node has 1715, 1715, 1717, 198: their product is 999916498350.
    private static final String JUST_BELOW = "shape 4 7 7;form 0 w;shape w 5 7;form 2 v 4;shape u v v;join 4 4 0;join 5 4 1;"
        + "join 6 6 0;join 7 1 1";
    // Beside u the last node has 216, 4608, 4609, 218: their product is 1000067751936.
    private static final String JUST_ABOVE = "shape 3 8 9;form 0 w;shape w 8 8;form 2 v 3;shape u w v;ravel 4 0;join 5 4 1;"
        + "join 6 6 0;join 7 1 1";
    private static final Check check = new Check("SolvedBoundaryTest");

    public static void main(String[] args) {
        eachLetterByItself();
        framesThenCells();
        whatIsMet();
        nodeByNode();
        roundsAgainAndAgain();
        noLetterOneLetterElse();
        sumBelowNought();
        productOfNought();
        productThatDoesNotDivide();
        numberAbove9999();
        productAboveItsBound();
        whatFailsFirstEndsIt();
        howFailingIsTold();
        letterAsked();
        openLetters();
        waysOfOpenOnes();
        noneIfItFails();
        oddsInLowestTerms();
        mendOneExtent();
        nothingIsChanged();
        check.end();
    }

    private static void letters(ShapeFrames x, int... want) {
        for (int letter = 0; letter < want.length; letter++) {
            check.due("letter(" + letter + ")", x.letter(letter), want[letter]);
        }
    }

    private static void ways(ShapeFrames x, int ways, int... first) {
        check.due("ways()", x.ways(), ways);
        for (int letter = 0; letter < first.length; letter++) {
            check.due("way(" + letter + ")", x.way(letter), first[letter]);
        }
    }

    private static void odds(ShapeFrames x, int above, int below) {
        check.due("odds(0)", x.odds(0), above);
        check.due("odds(1)", x.odds(1), below);
    }

    private static void eachLetterByItself() {
        check.says("SOLVED: at first each LETTER is by itself, a GIVEN one is that number");
        ShapeFrames x = check.told("shape u u v");
        letters(x, 20000, 20001, 20002, 20003);
        x.give(0, 0);
        x.give(3, 9);
        letters(x, 0, 20001, 20002, 9);
        check.shape(x, 0, 0, 0, 20001);
    }

    private static void framesThenCells() {
        check.says("Then NODE by NODE, of each FRAMES from the first axis on, then CELLS from the first axis on, the EXTENTS that must be EQUAL are MET");
        check.fails(check.told("shape 1 2 3;shape 4 5 6;each 0 1 1"), 2, 1, 0, 1, 4);
        check.fails(check.told("shape 1 2 3;shape 1 5 6;each 0 1 1"), 2, 1, 1, 2, 5);
        check.fails(check.told("shape 1 2 3;shape 1 2 6;each 0 1 1"), 2, 2, 0, 3, 6);
        check.fails(check.told("shape 1 2 3;shape 1 5 6;each 0 1 2"), 2, 2, 0, 2, 5);
        check.fails(check.told("shape 1 2 3;shape 1 2 6;each 0 1 2"), 2, 2, 1, 3, 6);
        check.fails(check.told("shape 1 2 3;shape 4 5 6;join 0 1 2"), 2, 1, 0, 1, 4);
        // Node by node: the earlier one fails, though the later one has the lesser axis.
        check.fails(check.told("shape 1 2;shape 1 3;each 0 1 0;shape 4;each 0 3 0"), 2, 1, 1, 2, 3);
        // What an earlier axis tells of a letter holds for the later one.
        check.fails(check.told("shape u u;shape 1 3;each 0 1 0"), 2, 1, 1, 1, 3);
        check.fails(check.told("shape u u;shape 1 3;each 1 0 1"), 2, 2, 0, 3, 1);
    }

    private static void whatIsMet() {
        check.says("two numbers that are unlike FAIL");
        check.fails(check.told("shape 0;shape 0;each 0 1 0"));
        check.fails(check.told("shape 0;shape 1;each 0 1 0"), 2, 1, 0, 0, 1);
        check.fails(check.told("shape 9;shape 8;each 0 1 0"), 2, 1, 0, 9, 8);
        check.says("a LETTER and a number: it is that, and all that are ALIKE it are");
        letters(check.told("shape u;shape 0;each 0 1 0"), 0, 20001, 20002, 20003);
        letters(check.told("shape 9;shape x;each 0 1 0"), 20000, 20001, 20002, 9);
        letters(check.told("shape u v w;shape v w x;each 0 1 0;shape x;shape 4;each 3 4 0"), 4, 4, 4, 4);
        letters(check.told("shape u v w;shape v w x;each 1 0 0;shape u;shape 4;each 4 3 0"), 4, 4, 4, 4);
        check.says("two LETTERS: they are ALIKE");
        letters(check.told("shape u v w;shape v w x;each 0 1 0"), 20000, 20000, 20000, 20000);
        letters(check.told("shape u x;shape v w;each 1 0 0"), 20000, 20000, 20002, 20002);
        letters(check.told("shape w x;shape v u;each 0 1 0;shape w x;each 1 3 1"), 20000, 20001, 20001, 20000);
        // A letter and itself, and two that are alike already.
        letters(check.told("shape u v;each 0 0 0;shape v u;each 0 2 0;each 0 2 0"), 20000, 20000, 20002, 20003);
    }

    private static void nodeByNode() {
        check.says("Then SUMS and PRODUCTS, NODE by NODE,");
        // Of two that would fail, the lesser node does, whichever is the sum.
        check.fails(check.told("shape 2;join 0 0 1;shape 5;each 1 2 0;form 0 3"), 1, 3, 0, 0, 0);
        check.fails(check.told("shape 2;form 0 3;join 0 0 1;shape 5;each 2 3 0"), 1, 4, 0, 0, 0);
        check.fails(check.told("shape 2;ravel 0 1;shape 5;each 1 2 0;join 0 0 1;each 4 2 0"), 1, 4, 0, 0, 0);
        // What the lesser node finds is a number for the greater one in the same round: the greater one fails, not the lesser.
        check.fails(check.told("shape 2;form 0 u;shape u;form 2 3"), 3, 4, 0, 0, 0);
        check.fails(check.told("shape u;form 0 3;shape 2;form 2 u"), 3, 4, 0, 0, 0);
        check.fails(check.told("shape u;shape 1;join 0 1 1;shape 4;each 2 3 0;form 0 2"), 5, 4, 0, 0, 0);
    }

    private static void roundsAgainAndAgain() {
        check.says("again and again as long as in a round through all of them one LETTER more became a number");
        // Each needs what the one behind it finds: a round for each.
        ShapeFrames x = check.told("shape u v;form 0 6;shape v w;form 2 6;shape w x;form 4 6");
        check.fails(x);
        letters(x, 20000, 20001, 20002, 20003);
        x.give(3, 3);
        check.fails(x);
        letters(x, 2, 3, 2, 3);
        x = check.told("shape u v;form 0 6;shape v w;form 2 6;shape w x;form 4 6;shape x;form 6 3");
        letters(x, 2, 3, 2, 3);
        check.fails(x);
        // The last round finds that the first one does not hold.
        x = check.told("shape u v;form 0 w 5;shape v w;form 2 6 x;shape w;form 4 x;shape x;form 6 3");
        check.fails(x, 1, 4, 0, 0, 0);
        letters(x, 20000, 6, 3, 3);
        // Nothing more is found: it ends, though letters are left.
        x = check.told("shape u v;form 0 6;shape w x;form 2 u 3;shape x;form 4 w");
        letters(x, 20000, 20001, 20002, 20003);
        check.fails(x);
    }

    private static void noLetterOneLetterElse() {
        check.says("Of one of them: if no LETTER in it is without a number, both sides are MET; if one LETTER is without a number, and is in it just once (ALIKE ones count as the same), it becomes the number by which it holds; else nothing.");
        check.fails(check.told("shape 2 3;form 0 6;form 0 1 6"));
        check.fails(check.told("shape 2 3;form 0 5"), 1, 4, 0, 0, 0);
        letters(check.told("shape u 3;form 0 6"), 2, 20001, 20002, 20003);
        letters(check.told("shape 6;form 0 u 3"), 2, 20001, 20002, 20003);
        // Twice: on one side, on both, by one that is alike; in a sum and in a product.
        letters(check.told("shape u u;form 0 4"), 20000, 20001, 20002, 20003);
        letters(check.told("shape u 2;form 0 u 3"), 20000, 20001, 20002, 20003);
        letters(check.told("shape u v;shape v u;each 0 1 0;form 0 4"), 20000, 20000, 20002, 20003);
        letters(check.told("shape u;join 0 0 1;shape 4;each 1 2 0"), 20000, 20001, 20002, 20003);
        letters(check.told("shape u;shape v;each 0 1 0;join 0 1 1;shape 4;each 3 4 0"), 20000, 20000, 20002, 20003);
        letters(check.told("shape u;shape 2;join 0 1 1;each 0 2 0"), 20000, 20001, 20002, 20003);
        check.fails(check.told("shape u;shape 2;join 0 1 1;each 0 2 0"));
        // Two of them.
        letters(check.told("shape u v;form 0 6"), 20000, 20001, 20002, 20003);
        letters(check.told("shape u;shape v;join 0 1 1;shape 4;each 2 3 0"), 20000, 20001, 20002, 20003);
        // Twice, but as numbers.
        ShapeFrames x = check.told("shape u u;form 0 4");
        x.give(0, 2);
        check.fails(x);
        x.give(0, 3);
        check.fails(x, 1, 4, 0, 0, 0);
    }

    private static void sumBelowNought() {
        check.says("It FAILS, if there is no such number: a SUM by a number below 0;");
        for (int sum = 0; sum <= 9; sum++) {
            ShapeFrames x = check.told("shape u;shape 4;join 0 1 1;shape " + sum + ";each 2 3 0");
            if (sum < 4) {
                check.fails(x, 2, 3, 0, 0, 0);
            } else {
                check.fails(x);
            }
            check.due("letter(0), the sum being " + sum, x.letter(0), sum < 4 ? 20000 : sum - 4);
        }
        // The same for the second addend, and for one beside a cell without extents.
        check.due("letter(0)", check.told("shape 4;shape u;join 0 1 1;shape 4;each 2 3 0").letter(0), 0);
        check.fails(check.told("shape 4;shape u;join 0 1 1;shape 3;each 2 3 0"), 2, 3, 0, 0, 0);
        check.due("letter(0)", check.told("shape;shape u;join 0 1 1;shape 1;each 2 3 0").letter(0), 0);
        check.fails(check.told("shape;shape u;join 0 1 1;shape 0;each 2 3 0"), 2, 3, 0, 0, 0);
    }

    private static void productOfNought() {
        check.says("a PRODUCT of nought that should be more");
        check.fails(check.told("shape u 0;form 0 1"), 1, 4, 0, 0, 0);
        check.fails(check.told("shape 1;form 0 u 0"), 1, 4, 0, 0, 0);
        check.fails(check.told("shape u 0;form 0"), 1, 4, 0, 0, 0);
        check.fails(check.told("shape;form 0 0 u"), 1, 4, 0, 0, 0);
        check.fails(check.told("shape 0 u;ravel 0 2;shape 3;each 1 2 1"), 1, 4, 0, 0, 0);
        check.says("(A PRODUCT of nought that should be nought leaves the LETTER as it is.)");
        String[] noughts = {"shape u 0;form 0 0", "shape 0;form 0 u 0", "shape 0 u;ravel 0 2;shape 0;each 1 2 1",
            "shape 0 9;form 0 0 9 u"};
        for (String text : noughts) {
            ShapeFrames x = check.told(text);
            check.fails(x);
            check.due("letter(0) of \"" + text + "\"", x.letter(0), 20000);
            ways(x, 10, 0);
        }
        // A nought that should come out makes the letter nought.
        check.due("letter(0)", check.told("shape u 1;form 0 0").letter(0), 0);
        check.due("letter(0)", check.told("shape 0;form 0 u 9").letter(0), 0);
        check.due("letter(0)", check.told("shape u;form 0 0 9").letter(0), 0);
    }

    private static void productThatDoesNotDivide() {
        check.says("one that does not divide;");
        for (int factor = 1; factor <= 9; factor++) {
            ShapeFrames x = check.told("shape 6;form 0 u " + factor);
            if (6 % factor == 0) {
                check.fails(x);
            } else {
                check.fails(x, 1, 4, 0, 0, 0);
            }
            check.due("letter(0), times " + factor, x.letter(0), 6 % factor == 0 ? 6 / factor : 20000);
        }
        check.fails(check.told("shape u 4;form 0 6"), 1, 4, 0, 0, 0);
        check.fails(check.told("shape 2 u;ravel 0 2;shape 5;each 1 2 1"), 1, 4, 0, 0, 0);
        check.fails(check.told("shape;form 0 u 2"), 1, 4, 0, 0, 0);
    }

    private static void numberAbove9999() {
        check.says("a number above 9999;");
        // A ravel's letter, a form's, an argument's.
        ShapeFrames x = check.told(TO_9999 + "ravel 8 3");
        check.fails(x);
        check.shape(x, 9, 9999);
        check.due("letter(13)", x.letter(13), 9999);
        x = check.told(TO_9999 + "form 8 x");
        check.fails(x);
        check.due("letter(3)", x.letter(3), 9999);
        check.fails(check.told(TO_10000 + "ravel 2 2"), 3, 4, 0, 0, 0);
        check.shape(check.told(TO_10000 + "ravel 2 2"), 3, 20007);
        check.fails(check.told(TO_10000 + "form 2 x"), 3, 4, 0, 0, 0);
        check.due("letter(3)", check.told(TO_10000 + "form 2 x").letter(3), 20003);
        check.due("letter(3)", check.told(TO_10000 + "form 2 x 2").letter(3), 5000);
        check.fails(check.told("shape 4 5 5;form 0 u;shape x;form 2 u u"), 3, 4, 0, 0, 0);
        check.due("letter(3)", check.told("shape 4 5 5;form 0 u;shape x 2;form 2 u u").letter(3), 5000);
        // A sum: 3087 and 6912 are 9999; twice 5000 are 10000.
        String sum = "shape 7 7 7;form 0 u;shape u 9;ravel 2 2;shape 8 8 9;form 4 v;shape v 6 2;ravel 6 3;join 3 7 1";
        x = check.told(sum);
        check.fails(x);
        check.shape(x, 8, 9999);
        x = check.told(sum + ";ravel 8 1");
        check.fails(x);
        check.shape(x, 9, 9999);
        x = check.told(sum + ";join 8 8 0");
        check.shape(x, 9, 9999, 2);
        check.fails(check.told(sum + ";join 8 3 1"), 9, 3, 0, 0, 0);
        x = check.told("shape 5 5 5;form 0 w;shape w 8 5;ravel 2 3;join 3 3 1");
        check.fails(x, 4, 3, 0, 0, 0);
        check.shape(x, 3, 5000);
        check.shape(x, 4, 20008);
    }

    private static void productAboveItsBound() {
        check.says("a PRODUCT of the numbers of a side above 999999999999 (none of them being nought)");
        ShapeFrames x = check.told(JUST_BELOW + ";form 8 0");
        check.fails(x);
        check.shape(x, 8, 0, 1715, 1715, 1717, 198);
        check.due("letter(0)", x.letter(0), 0);
        x = check.told(JUST_ABOVE + ";form 8 0");
        check.fails(x, 9, 4, 0, 0, 0);
        check.shape(x, 8, 20000, 216, 4608, 4609, 218);
        check.due("open()", x.open(), 1);
        check.due("ways(), it failing as it is", x.ways(), 0);
        // With a nought among them the side is nought, whatever the others are.
        x.give(0, 0);
        check.fails(x);
        x.give(0, 1);
        check.fails(x, 9, 4, 0, 0, 0);
        // Two letters without a number: nothing is looked at, so nothing fails.
        x = check.told(JUST_ABOVE + ";form 8 x");
        check.fails(x);
        check.due("open()", x.open(), 9);
        ways(x, 1, 0, NOT, NOT, 0);
        x.give(3, 0);
        check.fails(x, 9, 4, 0, 0, 0);
        x = check.told(JUST_BELOW + ";form 8 x");
        check.fails(x);
        ways(x, 1, 0, NOT, NOT, 0);
        x.give(3, 0);
        check.fails(x);
        check.due("letter(0)", x.letter(0), 0);
    }

    private static void whatFailsFirstEndsIt() {
        check.says("What FAILS first ends it.");
        ShapeFrames x = check.told("shape 1 u;shape 2 3;each 0 1 0;shape v;shape 4;each 3 4 0;form 4 w");
        check.fails(x, 2, 1, 0, 1, 2);
        letters(x, 20000, 20001, 20002, 20003);
        x = check.told("shape u 1;shape 3 2;each 0 1 0;shape v;shape 4;each 3 4 0");
        check.fails(x, 2, 1, 1, 1, 2);
        letters(x, 3, 20001, 20002, 20003);
        // Meeting ends ahead of sums and products; these end in their order and round.
        x = check.told("shape 2;form 0 u;form 0 3;form 0 v;shape 5;form 4 6");
        check.fails(x, 2, 4, 0, 0, 0);
        letters(x, 2, 20001, 20002, 20003);
        x = check.told("shape 2;form 0 3;shape 5;shape 6;each 2 3 0");
        check.fails(x, 4, 1, 0, 5, 6);
        check.says("SOLVED (as far as it went, if it FAILS)");
        x = check.told("shape 2 u;form 0 6;form 0 7;ravel 0 2");
        check.fails(x, 2, 4, 0, 0, 0);
        check.shape(x, 0, 2, 3);
        check.shape(x, 3, 20007);
    }

    private static void howFailingIsTold() {
        check.says("By KIND of FAILING: 1 FRAMES, 2 CELLS, 3 a SUM, 4 a PRODUCT;");
        check.due("fails(1) of frames", check.told("shape 1;shape 2;each 0 1 0").fails(1), 1);
        check.due("fails(1) of cells", check.told("shape 1;shape 2;each 0 1 1").fails(1), 2);
        check.due("fails(1) of a sum", check.told("shape 1;join 0 0 1;each 0 1 1").fails(1), 3);
        check.due("fails(1) of a ravel's product", check.told("shape 1 2;ravel 0 2;each 0 1 2").fails(1), 4);
        check.due("fails(1) of a form's product", check.told("shape 1;form 0 2").fails(1), 4);
        check.says("for 1, 2 the axis (from 0 on, of FRAMES, of CELLS; of a JOIN's CELLS from 1 on) and both numbers");
        check.fails(check.told("shape 0;shape 9;each 0 1 0"), 2, 1, 0, 0, 9);
        check.fails(check.told("shape 0;shape 9;each 1 0 1"), 2, 2, 0, 9, 0);
        check.fails(check.told("shape 3 0;shape 4 9;join 0 1 2"), 2, 2, 1, 0, 9);
        check.fails(check.told("shape 2 3 0;shape 2 4 9;join 0 1 -1"), 2, 2, 1, 0, 9);
        // Nodes 3 and 4 have six axes and differ at the last one only: frames of six, cells of five and of three.
        String six = "shape 1 1 1;join 0 0 0;join 1 1 0;join 2 2 0;join 2 2 0;shape 7;each 3 5 1;shape 8;each 4 7 1;";
        check.fails(check.told(six + "each 3 4 0"), 9, 1, 5, 7, 8);
        check.fails(check.told(six + "each 4 3 -1"), 9, 2, 4, 8, 7);
        check.fails(check.told(six + "each 3 4 3"), 9, 2, 2, 7, 8);
        check.fails(check.told(six + "join 4 3 -1"), 9, 2, 4, 8, 7);
        check.fails(check.told(six + "join 3 4 3"), 9, 2, 2, 7, 8);
        check.says("for 3, 4 axis 0 and the numbers 0, 0");
        check.fails(check.told("shape 3;shape 4;join 0 1 1;shape 9;each 2 3 0"), 2, 3, 0, 0, 0);
        check.fails(check.told("shape 3 4;shape 3 4;join 0 1 1;shape 3 9;each 2 3 0"), 2, 3, 0, 0, 0);
        check.fails(check.told("shape 3 4;ravel 0 1;shape 3 9;each 1 2 0"), 1, 4, 0, 0, 0);
        check.fails(check.told("shape 9 9 9;form 0 8 8 8"), 1, 4, 0, 0, 0);
        check.says("What FAILS first: the NODE (what 0), by which KIND of FAILING (1), the axis (2), the first number (3), the second (4); NONE: nothing does. OUTSIDE.");
        int[] outside = {-1, 5, 6, Integer.MAX_VALUE, Integer.MIN_VALUE};
        for (int what : outside) {
            check.due("fails(" + what + "), failing", check.told("shape 1;form 0 2").fails(what), OUTSIDE);
            check.due("fails(" + what + "), not failing", check.told("shape 1;form 0 1").fails(what), OUTSIDE);
        }
        check.fails(check.told("shape 1;form 0 1"));
    }

    private static void letterAsked() {
        check.says("What a LETTER (0 .. 3, 4 and a NODE that is a JOIN or a RAVEL) is, SOLVED: as of extent(). UNKNOWN.");
        ShapeFrames x = check.told("shape 2;each 0 0 0;join 0 0 1;turn 0 0;fold 0 0;ravel 0 1;form 0 2;shape u;ravel 7 1;join 7 7 1");
        int[] want = {20000, 20001, 20002, 20003, UNKNOWN, UNKNOWN, 4, UNKNOWN, UNKNOWN, 2, UNKNOWN, UNKNOWN, 20012, 20013};
        letters(x, want);
        // The ravel of one letter is not found to be alike it; both are numbers as soon as one is.
        x.give(0, 7);
        check.due("letter(12)", x.letter(12), 7);
        check.due("letter(13)", x.letter(13), 14);
        int[] unknown = {-1, 14, 15, 100, 20000, Integer.MAX_VALUE, Integer.MIN_VALUE};
        for (int letter : unknown) {
            check.due("letter(" + letter + ")", x.letter(letter), UNKNOWN);
        }
        x = check.told("shape;ravel 0 0");
        check.due("letter(5)", x.letter(5), 1);
        check.due("letter(6)", x.letter(6), UNKNOWN);
    }

    private static void openLetters() {
        check.says("OPEN: LETTERS 0 .. 3 that are in some NODE told as SHAPE or FORM, and are no numbers, SOLVED, each of those that are ALIKE once (the least).");
        check.says("OPEN LETTERS (bits).");
        check.due("open() of none", new ShapeFrames().open(), 0);
        check.due("open() of no letters", check.told("shape 1 2 3").open(), 0);
        for (int letter = 0; letter < 4; letter++) {
            check.due("open()", check.told("shape " + (char) ('u' + letter)).open(), 1 << letter);
            check.due("open()", check.told("shape 1;form 0 1 1 " + (char) ('u' + letter)).open(), 0);
            check.due("open()", check.told("shape 0;form 0 0 " + (char) ('u' + letter)).open(), 1 << letter);
        }
        check.due("open() of all", check.told("shape u v w;shape x").open(), 15);
        check.due("open() of two pairs", check.told("shape u v;shape w x;each 0 1 0").open(), 3);
        check.due("open() of two pairs", check.told("shape u w;shape v x;each 0 1 0").open(), 5);
        check.due("open() of all alike", check.told("shape u v w;shape v w x;each 0 1 0").open(), 1);
        check.due("open() of the last two alike", check.told("shape x;shape w;each 0 1 0").open(), 4);
        check.due("open() of nodes' own alone", check.told("shape 0 u;ravel 0 2;program;shape 2;join 0 0 1").open(), 0);
        // Given ones are no numbers of a node, but a given one that is told is no more open.
        ShapeFrames x = check.told("shape v");
        x.give(0, 1);
        check.due("open()", x.open(), 2);
        x.give(1, 0);
        check.due("open()", x.open(), 0);
        // Alike a given one.
        x = check.told("shape u;shape x;each 0 1 0");
        x.give(3, 4);
        check.due("open()", x.open(), 0);
        x.free(3);
        check.due("open()", x.open(), 1);
        check.due("open() where it fails", check.told("shape 1 u;shape 2 3;each 0 1 0").open(), 1);
        check.due("open() where it fails", check.told("shape u 1;shape 3 2;each 0 1 0").open(), 0);
    }

    private static void waysOfOpenOnes() {
        check.says("WAYS: in how many ways these can be GIVEN numbers 0 .. 9 so that nothing FAILS; the first way (the least number for the least LETTER first)");
        check.says("The first way: the number of an OPEN LETTER; NONE: there is no way. UNKNOWN; NOT: it is not OPEN.");
        check.says("`int ways()`: WAYS.");
        ways(new ShapeFrames(), 1, NOT, NOT, NOT, NOT);
        ways(check.told("shape 4"), 1, NOT, NOT, NOT, NOT);
        ways(check.told("shape u"), 10, 0, NOT, NOT, NOT);
        ways(check.told("shape u v w;shape x"), 10000, 0, 0, 0, 0);
        ways(check.told("shape w x;form 0 9 9"), 1, NOT, NOT, 9, 9);
        ways(check.told("shape w x;form 0 8 9"), 2, NOT, NOT, 8, 9);
        // A way by which a letter would have to be 10, or a node's own 10000, is none; a node's own may be above 9.
        ways(check.told("shape u v;form 0 2 5"), 2, 2, 5, NOT, NOT);
        ways(check.told("shape u;join 0 0 1;ravel 0 1"), 10, 0, NOT, NOT, NOT);
        ways(check.told("shape u;shape v;join 0 1 1;shape w;each 2 3 0;shape 9;form 5 w"), 10, 0, 9, NOT, NOT);
        ways(check.told("shape u;shape v;join 0 1 1;shape 9 2;form 3 w;each 2 4 0"), 1, 9, 9, NOT, NOT);
        ways(check.told("shape u u;form 0 9 9"), 1, 9, NOT, NOT, NOT);
        ways(check.told("shape u u;form 0 0"), 1, 0, NOT, NOT, NOT);
        ways(check.told("shape u u;form 0 2"), 0, NONE, NOT, NOT, NOT);
        ways(check.told("shape u;join 0 0 1;shape 9;each 1 2 0"), 0, NONE, NOT, NOT, NOT);
        ways(check.told("shape 7 7;form 0 u v;shape w"), 10, 7, 7, 0, NOT);
        ways(check.told("shape u v;form 0 w x"), fourLetterProducts(), 0, 0, 0, 0);
        int[] unknown = {-1, 4, 5, Integer.MAX_VALUE, Integer.MIN_VALUE};
        for (int letter : unknown) {
            check.due("way(" + letter + ")", check.told("shape u v").way(letter), UNKNOWN);
        }
        // The others stay what they are, by what is given or by what was met.
        ShapeFrames x = check.told("shape u v w;form 0 6");
        ways(x, 9, 1, 1, 6, NOT);
        x.give(0, 2);
        ways(x, 2, NOT, 1, 3, NOT);
        x.give(0, 4);
        ways(x, 0, NOT, NONE, NONE, NOT);
        x.undo();
        ways(x, 2, NOT, 1, 3, NOT);
        ways(check.told("shape u v w;form 0 6;shape u;shape 2;each 2 3 0"), 2, NOT, 1, 3, NOT);
        ways(check.told("shape v w x;form 0 6;shape x;shape 3;each 3 2 0"), 2, NOT, 1, 2, NOT);
        // Alike ones are open once: the others are not.
        ways(check.told("shape x v;shape w u;each 0 1 0"), 100, 0, NOT, 0, NOT);
    }

    /** In how many ways two digits make the same product as two others. */
    private static int fourLetterProducts() {
        int ways = 0;
        for (int way = 0; way < 10000; way++) {
            ways += way / 1000 * (way / 100 % 10) == way / 10 % 10 * (way % 10) ? 1 : 0;
        }
        return ways;
    }

    private static void noneIfItFails() {
        check.says("none, if it FAILS as it is");
        ShapeFrames x = check.told("shape 1 u;shape 2 v;each 0 1 0");
        ways(x, 0, NONE, NONE, NOT, NOT);
        odds(x, 0, 1);
        x = check.told("shape 1;form 0 2");
        ways(x, 0, NOT, NOT, NOT, NOT);
        odds(x, 0, 1);
        // It fails by what is given, and then by nothing.
        x = check.told("shape u v;form 0 4");
        x.give(0, 3);
        ways(x, 0, NOT, NONE, NOT, NOT);
        x.give(0, 0);
        ways(x, 0, NOT, NONE, NOT, NOT);
        x.give(0, 1);
        ways(x, 1, NOT, NOT, NOT, NOT);
        x.free(0);
        ways(x, 3, 1, 4, NOT, NOT);
    }

    private static void oddsInLowestTerms() {
        check.says("ODDS: of these, each number 0 .. 9 being as likely for each, that nothing FAILS.");
        check.says("Parts are told in lowest terms: above (part 0), below (1).");
        check.says("ODDS. OUTSIDE.");
        odds(new ShapeFrames(), 1, 1);
        odds(check.told("shape u"), 1, 1);
        odds(check.told("shape u v w;shape x"), 1, 1);
        odds(check.told("shape u u;form 0 4"), 1, 10);
        odds(check.told("shape u u;form 0 5"), 0, 1);
        odds(check.told("shape u v;form 0 4"), 3, 100);
        odds(check.told("shape u v;form 0 6"), 1, 25);
        odds(check.told("shape u v;form 0 0"), 19, 100);
        odds(check.told("shape u v w;form 0 0"), 271, 1000);
        odds(check.told("shape u v w;form 0 9 9 9"), 1, 1000);
        // Four letters: one way of 10000.
        odds(check.told("shape u v w;form 0 9 9 9;shape x x;form 2 4"), 1, 10000);
        int[] outside = {-1, 2, 3, Integer.MAX_VALUE, Integer.MIN_VALUE};
        for (int part : outside) {
            check.due("odds(" + part + ")", check.told("shape u").odds(part), OUTSIDE);
            check.due("odds(" + part + "), failing", check.told("shape 1;form 0 2").odds(part), OUTSIDE);
        }
    }

    private static void mendOneExtent() {
        check.says("MEND: an EXTENT told in a NODE (of a SHAPE, a FORM) that, being told as a number 0 .. 9 in its place, makes that nothing FAILS: 100 times the NODE, 10 times the axis, and the number;");
        check.due("mend()", check.told("shape 1;shape 0;each 0 1 0").mend(), 0);
        check.due("mend()", check.told("shape 1;shape 9;each 0 1 0").mend(), 9);
        check.due("mend()", check.told("shape 1 2 3;shape 1 2 9;each 0 1 0").mend(), 29);
        // The last axis of the last node, by the last number.
        check.due("mend()", check.told("shape 9 9 9;form 0 9 9 9;turn 0 0;turn 0 0;turn 0 0;turn 0 0;turn 0 0;turn 0 0;turn 0 0;form 0 9 9 8").mend(), 929);
        // 10 would be needed.
        check.due("mend()", check.told("shape 2 5;join 0 0 1;shape 2 9;each 1 2 0").mend(), NONE);
        check.due("mend()", check.told("shape 5;join 0 0 1;form 1 9;shape 5;each 0 3 0").mend(), NONE);
        // A letter that is told as a number in one place stays a letter in the others.
        check.due("mend()", check.told("shape u u;shape 3 4;each 0 1 0").mend(), 3);
        check.due("mend()", check.told("shape u u u;shape 3 3 4;each 0 1 0").mend(), 24);
        check.says("of several the least; none (also if nothing FAILS).");
        check.due("mend()", check.told("shape 2 3;form 0 9").mend(), 3);
        check.due("mend()", check.told("shape 0;form 0 7").mend(), 7);
        check.due("mend()", check.told("shape 0 0;form 0 7").mend(), 100);
        check.due("mend()", check.told("shape 5;shape 1;shape 2;each 1 2 0").mend(), 102);
        check.says("MEND; NONE.");
        check.due("mend() of nothing", new ShapeFrames().mend(), NONE);
        check.due("mend(), nothing failing", check.told("shape 1;form 0 1").mend(), NONE);
        check.due("mend(), nothing failing, letters open", check.told("shape u u;form 0 5").mend(), NONE);
        check.due("mend(), two failing", check.told("shape 1;shape 2;each 0 1 0;shape 3;shape 4;each 3 4 0").mend(), NONE);
        // What is given stays so.
        ShapeFrames x = check.told("shape u v;shape 3 4;each 0 1 0");
        x.give(0, 5);
        check.due("mend()", x.mend(), 3);
        x.give(1, 6);
        check.due("mend(), two failing", x.mend(), NONE);
        x.free(0);
        check.due("mend()", x.mend(), 14);
        x.free(1);
        check.due("mend(), nothing failing", x.mend(), NONE);
    }

    /** All that can be asked without changing anything, in one row. */
    private static String allOf(ShapeFrames x) {
        StringBuilder all = new StringBuilder();
        for (int what = 0; what <= 6; what++) {
            all.append(x.count(what)).append(' ');
        }
        for (int node = 0; node < x.count(0); node++) {
            for (int axis = 0; axis < 6; axis++) {
                all.append(x.extent(node, axis)).append(' ');
            }
        }
        for (int letter = 0; letter < 14; letter++) {
            all.append(x.letter(letter)).append(' ');
        }
        for (int what = 0; what < 5; what++) {
            all.append(x.fails(what)).append(' ');
        }
        return all.append(x.fault()).toString();
    }

    private static void nothingIsChanged() {
        check.says("(Nothing is changed by these.)");
        String[] texts = {"shape u v;form 0 8;ravel 0 2", "shape u v;shape 3 4;each 0 1 0;shape 5;each 3 0 0", "shape w;form 0 x",
            JUST_ABOVE + ";form 8 x"};
        for (String text : texts) {
            ShapeFrames x = check.told(text);
            x.give(2, 4);
            x.keep(1);
            x.seen(3, 1, 6);
            x.row(1, 1, 4);
            Check.write(x, "shape 12");
            String before = allOf(x);
            int[] answers = {x.open(), x.ways(), x.way(0), x.way(3), x.odds(0), x.odds(1), x.mend(), x.kinds(), x.ask()};
            check.due("all behind these, of \"" + text + "\"", allOf(x).equals(before) ? 1 : 0, 1);
            int[] again = {x.open(), x.ways(), x.way(0), x.way(3), x.odds(0), x.odds(1), x.mend(), x.kinds(), x.ask()};
            for (int i = 0; i < answers.length; i++) {
                check.due("the " + i + "th, asked again", again[i], answers[i]);
            }
            check.due("undo()", x.undo(), 0);
            check.due("back(1)", x.back(1), 1);
        }
    }
}
