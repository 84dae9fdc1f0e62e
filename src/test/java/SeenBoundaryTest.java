/** The boundary cases of what was SEEN: promises 21 to 24 and section 3, sentence by sentence. */
public final class SeenBoundaryTest {
    private static final int NONE = ShapeFrames.NONE, OUTSIDE = ShapeFrames.OUTSIDE, FULL = ShapeFrames.FULL;
    private static final int SAME = 2 + 8 + 32, JOINED = 4, FOLDED = 16, ALL = 62;
    private static final int LEAST = Integer.MIN_VALUE, MOST = Integer.MAX_VALUE;
    private static final Check check = new Check("SeenBoundaryTest");

    public static void main(String[] args) {
        sixAtMost();
        bounds();
        nothingIsSeenAnyMore();
        aShapeWithoutAnAxis();
        kindsByAllThatIsSeen();
        askedBest();
        check.end();
    }

    private static void sixAtMost() {
        check.says("SEEN, 6 at most");
        check.says("SEEN: how many. OUTSIDE; FULL.");
        ShapeFrames x = new ShapeFrames();
        for (int i = 1; i <= 6; i++) {
            check.due("seen(), the " + i + "th", x.seen(2, 1, 4), i);
            check.due("count(2)", x.count(2), i);
        }
        check.due("seen(), the 7th", x.seen(2, 1, 4), FULL);
        check.due("seen(), the 7th, that fits none", x.seen(2, 0, 0), FULL);
        check.due("seen(0, 1, 4), the 7th", x.seen(0, 1, 4), OUTSIDE);
        check.due("seen(2, 1, 100), the 7th", x.seen(2, 1, 100), OUTSIDE);
        check.due("count(2)", x.count(2), 6);
        check.due("kinds()", x.kinds(), JOINED);
    }

    private static void bounds() {
        check.says("of one axis of n EXTENT (1 .. 9) (of two such, if it has two), gave a SHAPE of a axes (0, 1), its EXTENT m (0 .. 99;");
        int[][] inside = {{1, 1, 1}, {9, 1, 1}, {1, 0, 1}, {1, 1, 0}, {1, 1, 99}, {9, 0, 99}, {9, 0, 0}};
        for (int[] one : inside) {
            check.due("seen(" + one[0] + ", " + one[1] + ", " + one[2] + ")", new ShapeFrames().seen(one[0], one[1], one[2]), 1);
        }
        int[][] outside = {{0, 1, 1}, {10, 1, 1}, {-1, 1, 1}, {LEAST, 1, 1}, {MOST, 1, 1}, {1, -1, 1}, {1, 2, 1}, {1, LEAST, 1},
            {1, MOST, 1}, {1, 1, -1}, {1, 1, 100}, {1, 1, LEAST}, {1, 1, MOST}, {1, 0, -1}, {1, 0, 100}};
        ShapeFrames x = new ShapeFrames();
        for (int[] one : outside) {
            check.due("seen(" + one[0] + ", " + one[1] + ", " + one[2] + ")", x.seen(one[0], one[1], one[2]), OUTSIDE);
            check.due("count(2)", x.count(2), 0);
            check.due("kinds()", x.kinds(), ALL);
        }
    }

    private static void nothingIsSeenAnyMore() {
        check.says("SEEN is nothing: how many there were.");
        ShapeFrames x = new ShapeFrames();
        check.due("forget() of none", x.forget(), 0);
        for (int howMany = 1; howMany <= 6; howMany++) {
            for (int i = 0; i < howMany; i++) {
                x.seen(1, 0, 1);
            }
            check.due("kinds()", x.kinds(), 0);
            check.due("forget()", x.forget(), howMany);
            check.due("count(2)", x.count(2), 0);
            check.due("kinds()", x.kinds(), ALL);
            check.due("forget() again", x.forget(), 0);
        }
    }

    private static void aShapeWithoutAnAxis() {
        check.says("of a SHAPE without an axis m above 0 is taken, too, and fits no KIND)");
        for (int n = 1; n <= 9; n++) {
            for (int m = 0; m <= 99; m++) {
                ShapeFrames x = new ShapeFrames();
                check.due("seen(" + n + ", 0, " + m + ")", x.seen(n, 0, m), 1);
                check.due("kinds()", x.kinds(), m == 0 ? FOLDED : 0);
                check.due("ask()", x.ask(), NONE);
            }
        }
    }

    private static void kindsByAllThatIsSeen() {
        check.says("KINDS (bits 1 to 5) by which all that is SEEN would be so.");
        check.says("KINDS, by bits.");
        check.due("kinds() of nothing seen", new ShapeFrames().kinds(), ALL);
        for (int n = 1; n <= 9; n++) {
            for (int m = 0; m <= 99; m++) {
                ShapeFrames x = new ShapeFrames();
                x.seen(n, 1, m);
                check.due("kinds() by " + n + " to " + m, x.kinds(), m == n ? SAME : m == 2 * n ? JOINED : 0);
            }
        }
        // The sixth one counts as the first one does, wherever it is that does not fit.
        for (int odd = 0; odd < 6; odd++) {
            ShapeFrames x = new ShapeFrames();
            for (int i = 0; i < 6; i++) {
                x.seen(i + 1, 1, i == odd ? 2 * i + 2 : i + 1);
            }
            check.due("kinds(), the " + odd + "th being odd", x.kinds(), 0);
        }
        check.says("a VERB of unknown KIND, at RANK 3, of one argument of one axis of n EXTENT (1 .. 9) (of two such, if it has two), gave a SHAPE");
        // By making them: the same shapes, of the nodes themselves.
        ShapeFrames x = check.told("shape 9;each 0 0 3;join 0 0 3;turn 0 3;fold 0 3;ravel 0 3");
        check.shape(x, 1, 9);
        check.shape(x, 2, 18);
        check.shape(x, 3, 9);
        check.shape(x, 4);
        check.shape(x, 5, 9);
    }

    private static void askedBest() {
        check.says("ASK: n (1 .. 9) by which these are parted best (by the SHAPE): the greatest part that is alike is least; of like ones the least n; none (none parts them).");
        check.says("ASK; NONE.");
        check.due("ask() of all", new ShapeFrames().ask(), 1);
        int[][] seen = {{5, 1, 5}, {5, 1, 10}, {5, 0, 0}, {5, 0, 5}, {5, 1, 7}};
        for (int[] one : seen) {
            ShapeFrames x = new ShapeFrames();
            x.seen(one[0], one[1], one[2]);
            check.due("ask() behind seen(" + one[0] + ", " + one[1] + ", " + one[2] + ")", x.ask(), NONE);
            check.due("count(2)", x.count(2), 1);
            x.forget();
            check.due("ask() behind forget()", x.ask(), 1);
        }
    }
}
