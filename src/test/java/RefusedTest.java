import java.util.ArrayList;
import java.util.List;
import java.util.function.ToIntFunction;

/** "Refused, and nothing changes": of two objects alike one gets a refused call more, and they stay alike in all that can be asked. */
public final class RefusedTest {
    private static final int NONE = ShapeFrames.NONE, UNKNOWN = ShapeFrames.UNKNOWN, OUTSIDE = ShapeFrames.OUTSIDE,
        NOT = ShapeFrames.NOT, FULL = ShapeFrames.FULL, NULL = ShapeFrames.NULL, SIZE = ShapeFrames.SIZE,
        CAST = ShapeFrames.CAST, INDEX = ShapeFrames.INDEX, ROOM = ShapeFrames.ROOM;
    private static final int LEAST = Integer.MIN_VALUE, MOST = Integer.MAX_VALUE;
    private static final Check check = new Check("RefusedTest");

    public static void main(String[] args) {
        check.says("Refused, and nothing changes: UNKNOWN (no such NODE, LETTER, ROW), OUTSIDE (another number is not as told), NOT (not now: as told), FULL, then what the machine finds: the first of these that fits.");
        whatIsTold();
        whatIsGiven();
        solved();
        whatWasSeen();
        check.says("What the machine finds is answered as NULL -11 (the ROW is missing), SIZE -12 (fewer than none), CAST -13 (it is of the other sort; two of unlike sorts), INDEX -14 (there is no such place, not so many), ROOM -15 (there would be more than 10), of several the first in this order; it changes nothing.");
        rows();
        check.says("An object is used for at most 512 calls after it has been made");
        theLastOf512Calls();
        check.end();
    }

    /** An object in which there is something of everything, and as much as it can hold where that is a bound. */
    private static ShapeFrames full() {
        ShapeFrames x = check.told("shape 2 u;shape v 3;join 0 1 1;ravel 2 2;form 3 w 1");
        x.give(3, 1);
        x.keep(0);
        for (int v = 0; v < 9; v++) {
            x.give(0, v);
        }
        x.give(1, 2);
        x.free(3);
        for (int i = 1; i <= 6; i++) {
            x.seen(i, 1, 2 * i);
        }
        x.row(0, 0, 7);
        x.row(1, 1, 4);
        x.set(0, 0, 6, -9999);
        x.set(1, 1, 0, 9999);
        Check.write(x, "shape 1;turn 7 0");
        return x;
    }

    /** All that can be asked of an object, and then all that can be undone and gone back to. */
    private static List<Integer> all(ShapeFrames x) {
        List<Integer> all = new ArrayList<>();
        for (int what = 0; what <= 6; what++) {
            all.add(x.count(what));
        }
        for (int node = 0; node < 6; node++) {
            for (int what = 0; what < 5; what++) {
                all.add(x.node(node, what));
                all.add(x.extent(node, what));
            }
        }
        solvedOf(x, all);
        all.add(x.kinds());
        all.add(x.fault());
        for (int row = 0; row < 3; row++) {
            for (int i = 0; i <= 7; i++) {
                all.add(x.get(row, row == 1 ? 1 : 0, i));
            }
        }
        for (int left = x.count(4); left >= 0; left--) {
            all.add(x.undo());
            solvedOf(x, all);
        }
        for (int k = 0; k < 2; k++) {
            all.add(x.back(k));
            solvedOf(x, all);
        }
        all.add(x.erase());
        all.add(x.forget());
        return all;
    }

    private static void solvedOf(ShapeFrames x, List<Integer> all) {
        for (int letter = 0; letter < 10; letter++) {
            all.add(x.letter(letter));
        }
        for (int what = 0; what < 5; what++) {
            all.add(x.fails(what));
        }
        all.add(x.open());
        all.add(x.ways());
        all.add(x.mend());
    }

    private static void refused(String call, int want, ToIntFunction<ShapeFrames> made) {
        ShapeFrames x = full();
        ShapeFrames twin = full();
        check.due(call, made.applyAsInt(x), want);
        check.due("all behind " + call, all(x).equals(all(twin)) ? 1 : 0, 1);
    }

    private static void whatIsTold() {
        refused("write(-1)", OUTSIDE, x -> x.write(-1));
        refused("write(256)", OUTSIDE, x -> x.write(256));
        refused("program()", NOT, x -> x.program());
        refused("fault()", 13, x -> x.fault());
        refused("node(5, 0)", UNKNOWN, x -> x.node(5, 0));
        refused("node(-1, 9)", UNKNOWN, x -> x.node(-1, 9));
        refused("node(0, 5)", OUTSIDE, x -> x.node(0, 5));
        refused("extent(5, 0)", UNKNOWN, x -> x.extent(5, 0));
        refused("extent(0, 2)", OUTSIDE, x -> x.extent(0, 2));
        refused("extent(0, -1)", OUTSIDE, x -> x.extent(0, -1));
        refused("as(5, 7)", UNKNOWN, x -> x.as(5, 7));
        refused("as(0, 6)", OUTSIDE, x -> x.as(0, 6));
        refused("as(0, 0)", NOT, x -> x.as(0, 0));
        // A text that is full.
        ShapeFrames x = full();
        ShapeFrames twin = full();
        for (int i = 16; i < 200; i++) {
            x.write(';');
            twin.write(';');
        }
        check.due("write() of a full text", x.write('a'), FULL);
        check.due("all behind it", all(x).equals(all(twin)) ? 1 : 0, 1);
    }

    private static void whatIsGiven() {
        refused("give(4, 1)", UNKNOWN, x -> x.give(4, 1));
        refused("give(-1, 10)", UNKNOWN, x -> x.give(-1, 10));
        refused("give(0, 10)", OUTSIDE, x -> x.give(0, 10));
        refused("give(0, -1)", OUTSIDE, x -> x.give(0, -1));
        refused("give(0, 8)", NOT, x -> x.give(0, 8));
        refused("free(4)", UNKNOWN, x -> x.free(4));
        refused("free(-1)", UNKNOWN, x -> x.free(-1));
        refused("free(2)", NOT, x -> x.free(2));
        refused("free(3)", NOT, x -> x.free(3));
        refused("keep(2)", UNKNOWN, x -> x.keep(2));
        refused("keep(-1)", UNKNOWN, x -> x.keep(-1));
        refused("back(2)", UNKNOWN, x -> x.back(2));
        refused("back(-1)", UNKNOWN, x -> x.back(-1));
        refused("back(1)", NOT, x -> x.back(1));
        // Nothing to undo.
        ShapeFrames x = full();
        ShapeFrames twin = full();
        x.back(0);
        twin.back(0);
        check.due("undo()", x.undo(), NOT);
        check.due("all behind it", all(x).equals(all(twin)) ? 1 : 0, 1);
    }

    private static void solved() {
        refused("letter(4)", UNKNOWN, x -> x.letter(4));
        refused("letter(9)", UNKNOWN, x -> x.letter(9));
        refused("letter(-1)", UNKNOWN, x -> x.letter(-1));
        refused("fails(5)", OUTSIDE, x -> x.fails(5));
        refused("fails(-1)", OUTSIDE, x -> x.fails(-1));
        refused("way(4)", UNKNOWN, x -> x.way(4));
        refused("way(-1)", UNKNOWN, x -> x.way(-1));
        refused("way(0)", NOT, x -> x.way(0));
        refused("way(3)", NOT, x -> x.way(3));
        refused("odds(2)", OUTSIDE, x -> x.odds(2));
        refused("odds(-1)", OUTSIDE, x -> x.odds(-1));
        refused("mend()", NONE, x -> x.mend());
    }

    private static void whatWasSeen() {
        refused("seen(0, 1, 1)", OUTSIDE, x -> x.seen(0, 1, 1));
        refused("seen(1, 2, 1)", OUTSIDE, x -> x.seen(1, 2, 1));
        refused("seen(1, 1, 100)", OUTSIDE, x -> x.seen(1, 1, 100));
        refused("seen(1, 1, 1)", FULL, x -> x.seen(1, 1, 1));
        refused("ask()", NONE, x -> x.ask());
    }

    private static void rows() {
        refused("row(3, 2, 11)", UNKNOWN, x -> x.row(3, 2, 11));
        refused("row(0, 2, -1)", OUTSIDE, x -> x.row(0, 2, -1));
        refused("row(0, 0, 11)", OUTSIDE, x -> x.row(0, 0, 11));
        refused("row(0, 0, -1)", SIZE, x -> x.row(0, 0, -1));
        refused("set(3, 2, 0, 10000)", UNKNOWN, x -> x.set(3, 2, 0, 10000));
        refused("set(2, 0, 0, 10000)", OUTSIDE, x -> x.set(2, 0, 0, 10000));
        refused("set(0, 2, 0, 1)", OUTSIDE, x -> x.set(0, 2, 0, 1));
        refused("set(2, 1, 9, 1)", NULL, x -> x.set(2, 1, 9, 1));
        refused("set(0, 1, 9, 1)", CAST, x -> x.set(0, 1, 9, 1));
        refused("set(0, 0, 7, 1)", INDEX, x -> x.set(0, 0, 7, 1));
        refused("get(3, 2, 0)", UNKNOWN, x -> x.get(3, 2, 0));
        refused("get(2, 2, 0)", OUTSIDE, x -> x.get(2, 2, 0));
        refused("get(2, 0, 9)", NULL, x -> x.get(2, 0, 9));
        refused("get(1, 0, 9)", CAST, x -> x.get(1, 0, 9));
        refused("get(1, 1, 4)", INDEX, x -> x.get(1, 1, 4));
        refused("copy(3, 0, 2, 0, -1)", UNKNOWN, x -> x.copy(3, 0, 2, 0, -1));
        refused("copy(0, 0, 2, 0, -1)", NULL, x -> x.copy(0, 0, 2, 0, -1));
        refused("copy(2, 9, 1, 9, -1)", NULL, x -> x.copy(2, 9, 1, 9, -1));
        refused("copy(0, 9, 1, 9, -1)", SIZE, x -> x.copy(0, 9, 1, 9, -1));
        refused("copy(0, 9, 1, 9, 1)", CAST, x -> x.copy(0, 9, 1, 9, 1));
        refused("copy(0, 6, 0, 0, 2)", INDEX, x -> x.copy(0, 6, 0, 0, 2));
        refused("copy(0, 0, 0, 6, 2)", INDEX, x -> x.copy(0, 0, 0, 6, 2));
        refused("append(3, 2)", UNKNOWN, x -> x.append(3, 2));
        refused("append(0, 3)", UNKNOWN, x -> x.append(0, 3));
        refused("append(0, 2)", NULL, x -> x.append(0, 2));
        refused("append(2, 0)", NULL, x -> x.append(2, 0));
        refused("append(0, 1)", ROOM, x -> x.append(0, 1));
        refused("append(0, 0)", ROOM, x -> x.append(0, 0));
        refused("load(3, 0)", UNKNOWN, x -> x.load(3, 0));
        refused("load(2, 5)", UNKNOWN, x -> x.load(2, 5));
        refused("load(2, 0)", NULL, x -> x.load(2, 0));
        refused("load(1, 0)", CAST, x -> x.load(1, 0));
        refused("sum(3)", UNKNOWN, x -> x.sum(3));
        refused("sum(2)", NULL, x -> x.sum(2));
        refused("drop(3)", UNKNOWN, x -> x.drop(3));
        refused("drop(2)", NULL, x -> x.drop(2));
        refused("count(7)", OUTSIDE, x -> x.count(7));
        refused("count(LEAST)", OUTSIDE, x -> x.count(LEAST));
        refused("count(MOST)", OUTSIDE, x -> x.count(MOST));
    }

    private static void theLastOf512Calls() {
        ShapeFrames x = new ShapeFrames();
        int calls = 0;
        while (calls < 510) {
            x.give(calls % 4, calls / 4 % 10);
            calls++;
        }
        check.due("the 511th call", x.undo(), 7);
        check.due("the 512th call", x.letter(1), 6);
    }
}
