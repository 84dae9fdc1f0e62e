/** Promises 21 to 24: of which kind a verb is, by shapes that were seen. */
public final class SeenTest {
    private static final int NONE = ShapeFrames.NONE, OUTSIDE = ShapeFrames.OUTSIDE, FULL = ShapeFrames.FULL;
    private static final int SAME = 2 + 8 + 32, JOINED = 4, FOLDED = 16, ALL = 62;
    private static final Check check = new Check("SeenTest");

    public static void main(String[] args) {
        promise21Seen();
        promise22Forget();
        promise23Kinds();
        promise24Ask();
        check.end();
    }

    private static void promise21Seen() {
        ShapeFrames x = new ShapeFrames();
        int[][] outside = {
            {0, 1, 1}, {10, 1, 1}, {-1, 1, 1}, {1, 2, 1}, {1, -1, 1}, {1, 1, 100}, {1, 1, -1}, {1, 0, 100}, {1, 0, -1},
            {Integer.MAX_VALUE, 1, 1}, {1, Integer.MIN_VALUE, 1}, {1, 1, Integer.MIN_VALUE}};
        for (int[] one : outside) {
            check.due("seen(" + one[0] + ", " + one[1] + ", " + one[2] + ")", x.seen(one[0], one[1], one[2]), OUTSIDE);
        }
        check.due("count(2)", x.count(2), 0);
        check.due("seen(1, 0, 0)", x.seen(1, 0, 0), 1);
        check.due("seen(9, 1, 99)", x.seen(9, 1, 99), 2);
        check.due("seen(9, 0, 99)", x.seen(9, 0, 99), 3);
        check.due("seen(1, 1, 0)", x.seen(1, 1, 0), 4);
        check.due("seen(1, 1, 0)", x.seen(1, 1, 0), 5);
        check.due("seen(5, 1, 5)", x.seen(5, 1, 5), 6);
        check.due("seen(5, 1, 5)", x.seen(5, 1, 5), FULL);
        check.due("seen(0, 1, 5)", x.seen(0, 1, 5), OUTSIDE);
        check.due("count(2)", x.count(2), 6);
    }

    private static void promise22Forget() {
        ShapeFrames x = new ShapeFrames();
        check.due("forget() of nothing", x.forget(), 0);
        for (int i = 0; i < 7; i++) {
            x.seen(2, 1, 4);
        }
        check.due("kinds()", x.kinds(), JOINED);
        check.due("forget()", x.forget(), 6);
        check.due("count(2)", x.count(2), 0);
        check.due("kinds()", x.kinds(), ALL);
        check.due("seen(2, 0, 0)", x.seen(2, 0, 0), 1);
        check.due("kinds()", x.kinds(), FOLDED);
    }

    private static int kindsOf(int... seen) {
        ShapeFrames x = new ShapeFrames();
        for (int i = 0; i < seen.length; i += 3) {
            x.seen(seen[i], seen[i + 1], seen[i + 2]);
        }
        return x.kinds();
    }

    private static void promise23Kinds() {
        check.due("kinds() of nothing seen", kindsOf(), ALL);
        for (int n = 1; n <= 9; n++) {
            for (int m = 0; m <= 99; m++) {
                check.due("kinds() by " + n + " to " + m, kindsOf(n, 1, m), m == n ? SAME : m == n + n ? JOINED : 0);
                check.due("kinds() by " + n + " to none and " + m, kindsOf(n, 0, m), m == 0 ? FOLDED : 0);
            }
        }
        check.due("kinds() by several", kindsOf(3, 1, 3, 4, 1, 4), SAME);
        check.due("kinds() by several", kindsOf(3, 1, 6, 4, 1, 8), JOINED);
        check.due("kinds() by several that are not alike", kindsOf(3, 1, 3, 4, 1, 8), 0);
        check.due("kinds() by several that are not alike", kindsOf(3, 1, 6, 4, 0, 0), 0);
        check.due("kinds() by several, the last being none", kindsOf(3, 0, 0, 4, 0, 0, 5, 0, 0, 5, 0, 0, 5, 0, 0, 5, 0, 1), 0);
        check.due("kinds() by several", kindsOf(3, 0, 0, 4, 0, 0, 5, 0, 0, 5, 0, 0, 5, 0, 0, 5, 0, 0), FOLDED);
    }

    private static void promise24Ask() {
        ShapeFrames x = new ShapeFrames();
        check.due("ask() of all kinds", x.ask(), 1);
        x.seen(3, 1, 3);
        check.due("ask() of three that are never parted", x.ask(), NONE);
        x.forget();
        x.seen(3, 1, 6);
        check.due("ask() of one kind", x.ask(), NONE);
        x.forget();
        x.seen(3, 0, 0);
        check.due("ask() of one kind", x.ask(), NONE);
        x.seen(3, 1, 6);
        check.due("ask() of no kind", x.ask(), NONE);
        x.forget();
        check.due("ask() of all kinds", x.ask(), 1);
        check.due("count(2) behind ask()", x.count(2), 0);
    }
}
