/** Promises 25 to 33: the rows, and what is counted. */
public final class RowsTest {
    private static final int UNKNOWN = ShapeFrames.UNKNOWN, OUTSIDE = ShapeFrames.OUTSIDE, NULL = ShapeFrames.NULL,
        SIZE = ShapeFrames.SIZE, CAST = ShapeFrames.CAST, INDEX = ShapeFrames.INDEX, ROOM = ShapeFrames.ROOM;
    private static final int LEAST = Integer.MIN_VALUE, MOST = Integer.MAX_VALUE;
    private static final Check check = new Check("RowsTest");

    public static void main(String[] args) {
        promise25Row();
        promise26Set();
        promise27Get();
        promise28Copy();
        promise28CopyRefused();
        promise29Append();
        promise30Load();
        promise31Sum();
        promise32Drop();
        promise33Count();
        check.end();
    }

    /** Puts a row of a sort with these numbers into an object. */
    private static void put(ShapeFrames x, int row, int sort, int... numbers) {
        x.row(row, sort, numbers.length);
        for (int i = 0; i < numbers.length; i++) {
            x.set(row, sort, i, numbers[i]);
        }
    }

    private static void holds(ShapeFrames x, int row, int sort, int... numbers) {
        for (int i = 0; i < numbers.length; i++) {
            check.due("get(" + row + ", " + sort + ", " + i + ")", x.get(row, sort, i), numbers[i] + 50000);
        }
        check.due("get() behind the last place", x.get(row, sort, numbers.length), INDEX);
        check.due("get() as the other sort", x.get(row, 1 - sort, 0), CAST);
    }

    private static void promise25Row() {
        ShapeFrames x = new ShapeFrames();
        check.due("row(0, 0, 0)", x.row(0, 0, 0), 0);
        check.due("row(1, 1, 10)", x.row(1, 1, 10), 10);
        check.due("row(2, 1, 3)", x.row(2, 1, 3), 3);
        holds(x, 0, 0);
        holds(x, 1, 1, 0, 0, 0, 0, 0, 0, 0, 0, 0, 0);
        holds(x, 2, 1, 0, 0, 0);
        check.due("count(3)", x.count(3), 13);
        x.set(2, 1, 1, 7);
        check.due("row(2, 0, -1)", x.row(2, 0, -1), SIZE);
        check.due("row(2, 0, LEAST)", x.row(2, 0, LEAST), SIZE);
        check.due("row(2, 0, 11)", x.row(2, 0, 11), OUTSIDE);
        check.due("row(2, 0, MOST)", x.row(2, 0, MOST), OUTSIDE);
        check.due("row(2, 2, 3)", x.row(2, 2, 3), OUTSIDE);
        check.due("row(2, -1, 3)", x.row(2, -1, 3), OUTSIDE);
        check.due("row(2, 2, -1)", x.row(2, 2, -1), OUTSIDE);
        check.due("row(3, 0, 1)", x.row(3, 0, 1), UNKNOWN);
        check.due("row(-1, 7, 11)", x.row(-1, 7, 11), UNKNOWN);
        holds(x, 2, 1, 0, 7, 0);
        check.due("row(2, 0, 2), in place of the old one", x.row(2, 0, 2), 2);
        holds(x, 2, 0, 0, 0);
        // What an earlier one held, or was behind its end, is not seen again.
        put(x, 2, 0, 1, 2, 3, 4);
        x.row(2, 0, 1);
        x.row(2, 0, 4);
        holds(x, 2, 0, 0, 0, 0, 0);
    }

    private static void promise26Set() {
        ShapeFrames x = new ShapeFrames();
        check.due("set(0, 0, 0, 1) of a missing one", x.set(0, 0, 0, 1), NULL);
        x.row(0, 0, 3);
        x.row(1, 1, 3);
        check.due("set(0, 0, 0, -9999)", x.set(0, 0, 0, -9999), 50000);
        check.due("set(0, 0, 0, 9999)", x.set(0, 0, 0, 9999), 50000 - 9999);
        check.due("set(0, 0, 0, 5)", x.set(0, 0, 0, 5), 50000 + 9999);
        check.due("set(1, 1, 2, -7)", x.set(1, 1, 2, -7), 50000);
        check.due("set(1, 1, 2, 8)", x.set(1, 1, 2, 8), 50000 - 7);
        check.due("set(0, 1, 0, 1)", x.set(0, 1, 0, 1), CAST);
        check.due("set(1, 0, 0, 1)", x.set(1, 0, 0, 1), CAST);
        check.due("set(1, 0, 9, 1)", x.set(1, 0, 9, 1), CAST);
        check.due("set(0, 0, 3, 1)", x.set(0, 0, 3, 1), INDEX);
        check.due("set(0, 0, -1, 1)", x.set(0, 0, -1, 1), INDEX);
        check.due("set(0, 0, LEAST, 1)", x.set(0, 0, LEAST, 1), INDEX);
        check.due("set(0, 0, MOST, 1)", x.set(0, 0, MOST, 1), INDEX);
        check.due("set(0, 0, 0, 10000)", x.set(0, 0, 0, 10000), OUTSIDE);
        check.due("set(0, 0, 0, -10000)", x.set(0, 0, 0, -10000), OUTSIDE);
        check.due("set(0, 2, 0, 1)", x.set(0, 2, 0, 1), OUTSIDE);
        check.due("set(0, -1, 0, 1)", x.set(0, -1, 0, 1), OUTSIDE);
        check.due("set(2, 0, 0, 10000) of a missing one", x.set(2, 0, 0, 10000), OUTSIDE);
        check.due("set(2, 0, 99, 1) of a missing one", x.set(2, 0, 99, 1), NULL);
        check.due("set(3, 2, 0, 1)", x.set(3, 2, 0, 1), UNKNOWN);
        check.due("set(-1, 0, 0, 1)", x.set(-1, 0, 0, 1), UNKNOWN);
        holds(x, 0, 0, 5, 0, 0);
        holds(x, 1, 1, 0, 0, 8);
    }

    private static void promise27Get() {
        ShapeFrames x = new ShapeFrames();
        check.due("get(1, 0, 0) of a missing one", x.get(1, 0, 0), NULL);
        check.due("get(1, 2, 0) of a missing one", x.get(1, 2, 0), OUTSIDE);
        put(x, 1, 1, 4, -9999, 9999);
        holds(x, 1, 1, 4, -9999, 9999);
        check.due("get(1, 0, 7)", x.get(1, 0, 7), CAST);
        check.due("get(1, 1, 3)", x.get(1, 1, 3), INDEX);
        check.due("get(1, 1, -1)", x.get(1, 1, -1), INDEX);
        check.due("get(1, 1, LEAST)", x.get(1, 1, LEAST), INDEX);
        check.due("get(1, 1, MOST)", x.get(1, 1, MOST), INDEX);
        check.due("get(1, -1, 0)", x.get(1, -1, 0), OUTSIDE);
        check.due("get(3, 0, 0)", x.get(3, 0, 0), UNKNOWN);
        check.due("get(-1, 5, 0)", x.get(-1, 5, 0), UNKNOWN);
    }

    private static void promise28Copy() {
        ShapeFrames x = new ShapeFrames();
        put(x, 0, 0, 1, 2, 3, 4, 5);
        put(x, 1, 0, 6, 7, 8);
        check.due("copy(0, 3, 1, 1, 2)", x.copy(0, 3, 1, 1, 2), 2);
        holds(x, 1, 0, 6, 4, 5);
        holds(x, 0, 0, 1, 2, 3, 4, 5);
        // As if taken ahead, whichever lies first.
        check.due("copy(0, 0, 0, 1, 4)", x.copy(0, 0, 0, 1, 4), 4);
        holds(x, 0, 0, 1, 1, 2, 3, 4);
        check.due("copy(0, 1, 0, 0, 4)", x.copy(0, 1, 0, 0, 4), 4);
        holds(x, 0, 0, 1, 2, 3, 4, 4);
        check.due("copy(0, 0, 0, 0, 5)", x.copy(0, 0, 0, 0, 5), 5);
        holds(x, 0, 0, 1, 2, 3, 4, 4);
        check.due("copy(1, 3, 0, 5, 0)", x.copy(1, 3, 0, 5, 0), 0);
        check.due("copy(1, 0, 0, 2, 3)", x.copy(1, 0, 0, 2, 3), 3);
        holds(x, 0, 0, 1, 2, 6, 4, 5);
        put(x, 2, 1, 9, 8);
        check.due("copy(2, 1, 2, 0, 1)", x.copy(2, 1, 2, 0, 1), 1);
        holds(x, 2, 1, 8, 8);
        x.row(2, 0, 0);
        check.due("copy(2, 0, 2, 0, 0)", x.copy(2, 0, 2, 0, 0), 0);
    }

    private static void promise28CopyRefused() {
        ShapeFrames x = new ShapeFrames();
        put(x, 0, 0, 1, 2, 3);
        put(x, 1, 1, 4, 5);
        check.due("copy(3, 0, 0, 0, 0)", x.copy(3, 0, 0, 0, 0), UNKNOWN);
        check.due("copy(0, 0, 3, 0, 0)", x.copy(0, 0, 3, 0, 0), UNKNOWN);
        check.due("copy(-1, 0, 2, 0, -1)", x.copy(-1, 0, 2, 0, -1), UNKNOWN);
        check.due("copy(2, 0, -1, 0, -1)", x.copy(2, 0, -1, 0, -1), UNKNOWN);
        check.due("copy(2, 0, 0, 0, -1)", x.copy(2, 0, 0, 0, -1), NULL);
        check.due("copy(0, 0, 2, 0, -1)", x.copy(0, 0, 2, 0, -1), NULL);
        check.due("copy(0, 0, 1, 0, -1)", x.copy(0, 0, 1, 0, -1), SIZE);
        check.due("copy(0, -1, 0, 0, -1)", x.copy(0, -1, 0, 0, -1), SIZE);
        check.due("copy(0, 0, 0, 0, LEAST)", x.copy(0, 0, 0, 0, LEAST), SIZE);
        check.due("copy(0, 0, 1, 0, 0)", x.copy(0, 0, 1, 0, 0), CAST);
        check.due("copy(1, 9, 0, 9, 9)", x.copy(1, 9, 0, 9, 9), CAST);
        check.due("copy(0, -1, 0, 0, 1)", x.copy(0, -1, 0, 0, 1), INDEX);
        check.due("copy(0, 0, 0, -1, 1)", x.copy(0, 0, 0, -1, 1), INDEX);
        check.due("copy(0, -1, 0, 0, 0)", x.copy(0, -1, 0, 0, 0), INDEX);
        check.due("copy(0, 4, 0, 0, 0)", x.copy(0, 4, 0, 0, 0), INDEX);
        check.due("copy(0, 0, 0, 4, 0)", x.copy(0, 0, 0, 4, 0), INDEX);
        check.due("copy(0, 2, 0, 0, 2)", x.copy(0, 2, 0, 0, 2), INDEX);
        check.due("copy(0, 0, 0, 2, 2)", x.copy(0, 0, 0, 2, 2), INDEX);
        check.due("copy(0, 0, 0, 0, 4)", x.copy(0, 0, 0, 0, 4), INDEX);
        check.due("copy(0, 1, 0, 0, MOST)", x.copy(0, 1, 0, 0, MOST), INDEX);
        check.due("copy(0, MOST, 0, 0, 1)", x.copy(0, MOST, 0, 0, 1), INDEX);
        check.due("copy(0, 0, 0, MOST, MOST)", x.copy(0, 0, 0, MOST, MOST), INDEX);
        check.due("copy(0, LEAST, 0, 0, 1)", x.copy(0, LEAST, 0, 0, 1), INDEX);
        holds(x, 0, 0, 1, 2, 3);
        holds(x, 1, 1, 4, 5);
    }

    private static void promise29Append() {
        ShapeFrames x = new ShapeFrames();
        put(x, 0, 0, 1, 2, 3);
        put(x, 1, 1, -9999, 9999);
        check.due("append(0, 1)", x.append(0, 1), 5);
        holds(x, 0, 0, 1, 2, 3, -9999, 9999);
        holds(x, 1, 1, -9999, 9999);
        check.due("append(1, 0)", x.append(1, 0), 7);
        holds(x, 1, 1, -9999, 9999, 1, 2, 3, -9999, 9999);
        check.due("append(0, 0)", x.append(0, 0), 10);
        holds(x, 0, 0, 1, 2, 3, -9999, 9999, 1, 2, 3, -9999, 9999);
        check.due("append(1, 0)", x.append(1, 0), ROOM);
        check.due("append(1, 1)", x.append(1, 1), ROOM);
        holds(x, 1, 1, -9999, 9999, 1, 2, 3, -9999, 9999);
        check.due("append(0, 2)", x.append(0, 2), NULL);
        check.due("append(2, 0)", x.append(2, 0), NULL);
        check.due("append(2, 2)", x.append(2, 2), NULL);
        check.due("append(3, 2)", x.append(3, 2), UNKNOWN);
        check.due("append(2, -1)", x.append(2, -1), UNKNOWN);
        x.row(2, 1, 0);
        check.due("append(0, 2), nothing behind ten", x.append(0, 2), 10);
        check.due("append(2, 2)", x.append(2, 2), 0);
        x.row(2, 1, 1);
        check.due("append(0, 2), one behind ten", x.append(0, 2), ROOM);
        check.due("count(3)", x.count(3), 18);
        // A dropped one's old places are not among a new one's.
        x.drop(0);
        x.row(0, 0, 1);
        check.due("append(0, 2)", x.append(0, 2), 2);
        holds(x, 0, 0, 0, 0);
    }

    private static void promise30Load() {
        ShapeFrames x = check.told("shape 9 u 0;shape;join 0 0 1;shape v;shape 7;each 3 4 0;join 0 0 0");
        check.due("load(0, 0) to a missing one", x.load(0, 0), NULL);
        put(x, 0, 0, 11, 12, 13, 14);
        check.due("load(0, 0)", x.load(0, 0), 3);
        holds(x, 0, 0, 9, -1, 0, 14);
        check.due("load(0, 1)", x.load(0, 1), 0);
        holds(x, 0, 0, 9, -1, 0, 14);
        check.due("load(0, 3)", x.load(0, 3), 1);
        holds(x, 0, 0, 7, -1, 0, 14);
        check.due("load(0, 6)", x.load(0, 6), 4);
        holds(x, 0, 0, 9, -1, 0, 2);
        x.give(0, 5);
        check.due("load(0, 2)", x.load(0, 2), 3);
        holds(x, 0, 0, 9, 5, 0, 2);
        x.row(1, 0, 2);
        check.due("load(1, 0)", x.load(1, 0), INDEX);
        holds(x, 1, 0, 0, 0);
        x.row(1, 0, 3);
        check.due("load(1, 0)", x.load(1, 0), 3);
        x.row(1, 1, 2);
        check.due("load(1, 0)", x.load(1, 0), CAST);
        check.due("load(1, 1)", x.load(1, 1), CAST);
        x.row(1, 0, 0);
        check.due("load(1, 1)", x.load(1, 1), 0);
        check.due("load(2, 7)", x.load(2, 7), UNKNOWN);
        check.due("load(2, -1)", x.load(2, -1), UNKNOWN);
        check.due("load(3, 0)", x.load(3, 0), UNKNOWN);
        check.due("load(-1, 0)", x.load(-1, 0), UNKNOWN);
        check.due("load(2, 0)", x.load(2, 0), NULL);
    }

    private static void promise31Sum() {
        ShapeFrames x = new ShapeFrames();
        check.due("sum(0) of a missing one", x.sum(0), NULL);
        x.row(0, 0, 0);
        check.due("sum(0) of none", x.sum(0), 500000);
        put(x, 1, 1, 9999, 9999, 9999, 9999, 9999, 9999, 9999, 9999, 9999, 9999);
        check.due("sum(1)", x.sum(1), 599990);
        put(x, 2, 0, -9999, -9999, -9999, -9999, -9999, -9999, -9999, -9999, -9999, -9999);
        check.due("sum(2)", x.sum(2), 400010);
        put(x, 0, 0, 3, -5, 100);
        check.due("sum(0)", x.sum(0), 500098);
        check.due("sum(3)", x.sum(3), UNKNOWN);
        check.due("sum(-1)", x.sum(-1), UNKNOWN);
    }

    private static void promise32Drop() {
        ShapeFrames x = new ShapeFrames();
        check.due("drop(0) of a missing one", x.drop(0), NULL);
        x.row(0, 0, 0);
        x.row(1, 1, 4);
        check.due("drop(0)", x.drop(0), 0);
        check.due("drop(0) again", x.drop(0), NULL);
        check.due("drop(1)", x.drop(1), 4);
        check.due("sum(1)", x.sum(1), NULL);
        check.due("get(1, 1, 0)", x.get(1, 1, 0), NULL);
        check.due("count(3)", x.count(3), 0);
        check.due("drop(3)", x.drop(3), UNKNOWN);
        check.due("drop(-1)", x.drop(-1), UNKNOWN);
    }

    private static void promise33Count() {
        ShapeFrames x = check.told("shape u 3;shape;form 0 x x;turn 0 0;join 0 0 1");
        x.give(1, 4);
        x.give(3, 0);
        x.give(3, 1);
        x.seen(1, 1, 1);
        x.seen(1, 1, 1);
        x.row(0, 0, 3);
        x.row(2, 1, 4);
        Check.write(x, "shape w");
        int[] want = {5, 10, 2, 7, 3, 7, 9};
        for (int what = 0; what < want.length; what++) {
            check.due("count(" + what + ")", x.count(what), want[what]);
        }
        check.due("count(7)", x.count(7), OUTSIDE);
        check.due("count(-1)", x.count(-1), OUTSIDE);
        x.free(3);
        x.drop(2);
        check.due("count(1)", x.count(1), 2);
        check.due("count(3)", x.count(3), 3);
        check.due("count(4)", x.count(4), 4);
        check.due("program()", x.program(), 1);
        check.due("count(6)", x.count(6), 13);
        // What is told counts, also if it is a number, solved or given.
        x = check.told("shape v;shape 2;each 0 1 0");
        check.due("count(6)", x.count(6), 2);
        x.give(1, 2);
        check.due("count(6)", x.count(6), 2);
        check.tell(x, "program;shape");
        check.due("count(6)", x.count(6), 0);
    }
}
