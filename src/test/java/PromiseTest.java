import java.util.Arrays;

/** One method a promise: ordinary inputs, the edges that the document names, wrong inputs. */
public final class PromiseTest {
    public static void main(String[] args) {
        promise1();
        promise2();
        promise2ForgetsAll();
        promise3();
        promise3Limit();
        promise4();
        promise4Limit();
        promise5();
        promise5Limit();
        promise5Entering();
        promise5LettingIn();
        promise5Rest();
        promise6();
        promise6Wraps();
        promise7();
        promise8();
        promise8IsTheProduct();
        promise9();
        promise9Reached();
        Check.end("PromiseTest");
    }

    private static void promise1() {
        SquareStream x = new SquareStream();
        isEmpty("new", x, 1);
        Check.refused("new cell(0, 1, 0)", Check.BOUNDS, () -> x.cell(0, 1, 0));
        Check.refused("new cell(1, 0, 0)", Check.BOUNDS, () -> x.cell(1, 0, 0));
    }

    private static void isEmpty(String when, SquareStream x, int side) {
        for (int i = 0; i < 6; i++) {
            int what = i;
            Check.due(when + " about(" + what + ")", 0, () -> x.about(what));
        }
        Check.due(when + " about(6)", side, () -> x.about(6));
        Check.refused(when + " entered(0)", Check.BOUNDS, () -> x.entered(0));
        Check.refused(when + " result(0, 0)", Check.BOUNDS, () -> x.result(0, 0));
        for (int i = 0; i < side * side * 5; i++) {
            int at = i;
            Check.due(when + " register " + at, 0, () -> x.cell(at / 5 / side, at / 5 % side, at % 5));
        }
    }

    private static void promise2() {
        SquareStream x = new SquareStream();
        for (int side = 1; side <= 6; side++) {
            x.begin(side);
            isEmpty("begin(" + side + ")", x, side);
            int beyond = side;
            Check.refused("cell beyond " + side, Check.BOUNDS, () -> x.cell(0, beyond, 0));
        }
        x.begin(3);
        x.weights(1, 2, 3, 4, 5, 6);
        x.vector(false, 1, 2, 3, 4, 5, 6);
        x.cycle(1);
        int[] wrong = {0, 7, -1, Integer.MIN_VALUE, Integer.MAX_VALUE};
        for (int side : wrong) {
            Check.refusedDeed("begin(" + side + ")", Check.ILLEGAL, () -> x.begin(side));
        }
        Check.due("side behind a refused begin", 3, () -> x.about(6));
        Check.due("cycles behind a refused begin", 1, () -> x.about(0));
        Check.due("INPUT behind a refused begin", 1, () -> x.cell(0, 0, Squares.INPUT));
        Check.due("NEXT behind a refused begin", 3, () -> x.cell(0, 2, Squares.NEXT));
        Check.due("entered behind a refused begin", 1, () -> x.entered(0));
    }

    private static void promise2ForgetsAll() {
        SquareStream x = new SquareStream();
        x.begin(2);
        for (int i = 0; i < 4; i++) {
            x.weights(i + 1, i + 2, 0, 0, 0, 0);
        }
        x.vector(false, 8, 9, 0, 0, 0, 0);
        x.vector(false, 8, 9, 0, 0, 0, 0);
        x.vector(true, 8, 9, 0, 0, 0, 0);
        x.vector(false, 8, 9, 0, 0, 0, 0);
        x.vector(true, 8, 9, 0, 0, 0, 0);
        x.cycle(5);
        x.begin(2);
        isEmpty("begun anew", x, 2);
        x.cycle(3);
        Check.due("nothing is fed any more", 0, () -> x.cell(1, 0, Squares.INPUT));
        Check.due("nothing is reached any more", 0, () -> x.about(5));
        x.weights(7, 7, 0, 0, 0, 0);
        x.cycle(1);
        Check.due("a first row needs no gap", 7, () -> x.cell(0, 0, Squares.NEXT));
        Check.due("a set begins anew", 0, () -> x.about(4));
        Check.due("vectors are numbered anew", 0, () -> x.vector(false, 0, 0, 0, 0, 0, 0));
        Check.due("no old entry", -1, () -> x.entered(0));
        Check.refused("no old result", Check.NO_ELEMENT, () -> x.result(0, 0));
        x.begin(2);
        x.weights(7, 7, 0, 0, 0, 0);
        x.cycle(1);
        Check.due("half a set of before is forgotten", 0, () -> x.about(4));
    }

    private static void promise3() {
        SquareStream x = new SquareStream();
        x.begin(6);
        Check.due("weights", 0, () -> x.weights(1, 2, 3, 4, 5, 6));
        Check.due("weights", 1, () -> x.weights(11, 12, 13, 14, 15, 16));
        Check.due("rows that wait", 2, () -> x.about(2));
        x.cycle(2);
        Check.due("rows that wait", 0, () -> x.about(2));
        for (int i = 0; i < 6; i++) {
            int c = i;
            Check.due("NEXT of row 0", 11 + c, () -> x.cell(0, c, Squares.NEXT));
            Check.due("NEXT of row 1", 1 + c, () -> x.cell(1, c, Squares.NEXT));
        }
        Check.due("a row that was let in keeps its number", 2, () -> x.weights(0, 0, 0, 0, 0, 0));

        SquareStream y = new SquareStream();
        y.weights(5, 99, 99, 99, 99, 99);
        y.vector(true, 2, 99, 99, 99, 99, 99);
        y.cycle(2);
        Check.due("what is beyond the side doesn't matter", 10, () -> y.result(0, 0));
    }

    private static void promise3Limit() {
        SquareStream x = new SquareStream();
        x.begin(6);
        for (int i = 0; i < 120; i++) {
            int n = i;
            Check.due("weights number " + n, n, () -> x.weights(n, 0, 0, 0, 0, n));
        }
        Check.refused("row 121", Check.UNSUPPORTED, () -> x.weights(0, 0, 0, 0, 0, 0));
        Check.due("rows behind a refused one", 120, () -> x.about(2));
        x.cycle(1);
        Check.refused("row 121 when one is let in", Check.UNSUPPORTED, () -> x.weights(0, 0, 0, 0, 0, 0));
        for (int i = 0; i < 20; i++) {
            x.vector(true, 1, 1, 1, 1, 1, 1);
        }
        x.cycle(2000);
        Check.due("all rows are in", 0, () -> x.about(2));
        Check.due("all fresh ones are in", 20, () -> x.about(3));
        Check.due("the last row", 119, () -> x.cell(0, 5, Squares.NEXT));
        Check.due("the last product", 114 + 115 + 116 + 117 + 118 + 119, () -> x.result(19, 0));
        Check.refused("row 121 when all are in", Check.UNSUPPORTED, () -> x.weights(0, 0, 0, 0, 0, 0));
        x.begin(1);
        Check.due("begin makes room", 0, () -> x.weights(0, 0, 0, 0, 0, 0));
    }

    private static void promise4() {
        SquareStream x = new SquareStream();
        x.begin(6);
        Check.due("vector", 0, () -> x.vector(false, 1, 2, 3, 4, 5, 6));
        Check.due("vector", 1, () -> x.vector(true, 11, 12, 13, 14, 15, 16));
        Check.due("vectors that wait", 2, () -> x.about(1));
        for (int i = 0; i < 6; i++) {
            int r = i;
            x.cycle(1);
            Check.due("element " + r + " is fed", 1 + r, () -> x.cell(r, 0, Squares.INPUT));
        }
        Check.due("the fresh one waits", 1, () -> x.about(1));
        Check.due("a vector that entered keeps its number", 2, () -> x.vector(false, 0, 0, 0, 0, 0, 0));
    }

    private static void promise4Limit() {
        SquareStream x = new SquareStream();
        x.begin(6);
        for (int i = 0; i < 200; i++) {
            int n = i;
            Check.due("vector number " + n, n, () -> x.vector(false, n, 0, 0, 0, 0, n));
        }
        Check.refused("vector 201", Check.UNSUPPORTED, () -> x.vector(false, 0, 0, 0, 0, 0, 0));
        Check.refused("vector 201, fresh", Check.UNSUPPORTED, () -> x.vector(true, 0, 0, 0, 0, 0, 0));
        Check.due("vectors behind a refused one", 200, () -> x.about(1));
        x.cycle(200);
        Check.due("the last one is in", 200, () -> x.entered(199));
        Check.refused("vector 201 when all are in", Check.UNSUPPORTED, () -> x.vector(false, 0, 0, 0, 0, 0, 0));
        Check.due("INPUT of the last", 199, () -> x.cell(0, 0, Squares.INPUT));
        x.begin(1);
        Check.due("begin makes room", 0, () -> x.vector(false, 0, 0, 0, 0, 0, 0));
    }

    private static void promise5() {
        SquareStream x = new SquareStream();
        Check.due("cycle(0)", 0, () -> x.cycle(0));
        Check.due("cycle(1)", 1, () -> x.cycle(1));
        Check.due("cycle(41)", 42, () -> x.cycle(41));
        x.vector(false, 5, 0, 0, 0, 0, 0);
        Check.due("cycle(0)", 42, () -> x.cycle(0));
        Check.due("cycle(0) does nothing", 1, () -> x.about(1));
        Check.refused("cycle(-1)", Check.ILLEGAL, () -> x.cycle(-1));
        Check.refused("cycle(least)", Check.ILLEGAL, () -> x.cycle(Integer.MIN_VALUE));
        Check.due("a refused cycle does nothing", 1, () -> x.about(1));
        Check.due("a refused cycle does not count", 42, () -> x.about(0));
    }

    private static void promise5Limit() {
        SquareStream x = new SquareStream();
        Check.refused("cycle(100001)", Check.ILLEGAL, () -> x.cycle(100001));
        Check.refused("cycle(greatest)", Check.ILLEGAL, () -> x.cycle(Integer.MAX_VALUE));
        Check.due("cycle(99999)", 99999, () -> x.cycle(99999));
        Check.refused("cycle(2)", Check.ILLEGAL, () -> x.cycle(2));
        Check.refused("cycle(greatest)", Check.ILLEGAL, () -> x.cycle(Integer.MAX_VALUE));
        x.vector(false, 5, 0, 0, 0, 0, 0);
        Check.due("cycle(1)", 100000, () -> x.cycle(1));
        Check.due("the last cycle is a true one", 100000, () -> x.entered(0));
        Check.refused("cycle(1)", Check.ILLEGAL, () -> x.cycle(1));
        Check.due("cycle(0)", 100000, () -> x.cycle(0));
        x.begin(6);
        Check.due("cycle(100000)", 100000, () -> x.cycle(100000));
    }

    private static void promise5Entering() {
        SquareStream x = new SquareStream();
        x.begin(2);
        x.vector(true, 1, 1, 0, 0, 0, 0);
        x.vector(false, 2, 2, 0, 0, 0, 0);
        x.cycle(4);
        Check.due("a fresh one waits for a set", -1, () -> x.entered(0));
        Check.due("the one behind it waits, too", -1, () -> x.entered(1));
        x.weights(1, 1, 0, 0, 0, 0);
        x.cycle(2);
        Check.due("half a set is none", -1, () -> x.entered(0));
        x.weights(1, 1, 0, 0, 0, 0);
        x.cycle(1);
        Check.due("the set is complete", 1, () -> x.about(4));
        Check.due("it enters before rows are let in", -1, () -> x.entered(0));
        x.cycle(2);
        Check.due("it enters then", 8, () -> x.entered(0));
        Check.due("one a cycle", 9, () -> x.entered(1));
        Check.due("a fresh one ends the set", 0, () -> x.about(4));
    }

    private static void promise5LettingIn() {
        for (int s = 1; s <= 6; s++) {
            int side = s;
            SquareStream x = new SquareStream();
            x.begin(side);
            for (int i = 0; i < 2 * side; i++) {
                x.weights(i + 1, 0, 0, 0, 0, 0);
            }
            x.cycle(side);
            Check.due("a set is in", side, () -> x.about(2));
            x.cycle(20);
            Check.due("no row comes in while a set is complete", side, () -> x.about(2));
            x.vector(true, 1, 1, 1, 1, 1, 1);
            x.vector(false, 1, 1, 1, 1, 1, 1);
            x.cycle(2 * side - 1);
            Check.due("no row comes in till the mark is through, side " + side, side, () -> x.about(2));
            x.cycle(1);
            Check.due("then one does, side " + side, side - 1, () -> x.about(2));
            Check.due("into row 0", side + 1, () -> x.cell(0, 0, Squares.NEXT));
        }
    }

    /** Long idle runs end like short ones, and later calls wake the square. */
    private static void promise5Rest() {
        SquareStream x = new SquareStream();
        x.begin(3);
        x.weights(1, 2, 3, 0, 0, 0);
        x.weights(4, 5, 6, 0, 0, 0);
        x.weights(7, 8, 9, 0, 0, 0);
        x.weights(1, 1, 1, 0, 0, 0);
        x.vector(true, 1, 10, 100, 0, 0, 0);
        x.vector(true, 1, 1, 1, 0, 0, 0);
        Check.due("cycle(50000)", 50000, () -> x.cycle(50000));
        Check.due("result", 147, () -> x.result(0, 0));
        Check.due("the sums are gone", 0, () -> x.cell(2, 2, Squares.SUM));
        Check.due("the weights are there", 3, () -> x.cell(2, 2, Squares.WEIGHT));
        Check.due("the next row is in", 1, () -> x.cell(0, 0, Squares.NEXT));
        x.weights(2, 2, 2, 0, 0, 0);
        x.weights(3, 3, 3, 0, 0, 0);
        Check.due("cycle(40000)", 90000, () -> x.cycle(40000));
        Check.due("entered", 50003, () -> x.entered(1));
        Check.due("result", 6, () -> x.result(1, 2));
    }

    private static void promise6() {
        SquareStream x = new SquareStream();
        x.begin(2);
        x.weights(1, 2, 0, 0, 0, 0);
        x.weights(3, 4, 0, 0, 0, 0);
        x.weights(5, 6, 0, 0, 0, 0);
        x.vector(true, 10, 20, 0, 0, 0, 0);
        x.vector(false, 30, 40, 0, 0, 0, 0);
        x.cycle(1);
        registers(x, "cycle 1", 0, 0, 0, 0, 0, 1, 0);
        x.cycle(1);
        registers(x, "cycle 2", 0, 0, 0, 0, 0, 3, 0);
        registers(x, "cycle 2", 1, 1, 0, 0, 0, 2, 0);
        x.cycle(1);
        registers(x, "cycle 3", 0, 0, 10, 30, 3, 3, 1);
        registers(x, "cycle 3", 0, 1, 0, 0, 0, 4, 0);
        registers(x, "cycle 3", 1, 0, 0, 0, 0, 1, 0);
        x.cycle(1);
        registers(x, "cycle 4", 0, 0, 30, 90, 3, 3, 0);
        registers(x, "cycle 4", 0, 1, 10, 40, 4, 4, 1);
        registers(x, "cycle 4", 1, 0, 20, 50, 1, 1, 1);
        registers(x, "cycle 4", 1, 1, 0, 0, 0, 2, 0);
        x.cycle(1);
        registers(x, "cycle 5", 0, 0, 0, 0, 3, 3, 0);
        registers(x, "cycle 5", 0, 1, 30, 120, 4, 4, 0);
        registers(x, "cycle 5", 1, 0, 40, 130, 1, 1, 0);
        registers(x, "cycle 5", 1, 1, 20, 80, 2, 2, 1);
        x.cycle(1);
        registers(x, "cycle 6", 0, 0, 0, 0, 3, 5, 0);
        registers(x, "cycle 6", 0, 1, 0, 0, 4, 6, 0);
        registers(x, "cycle 6", 1, 0, 0, 0, 1, 3, 0);
        registers(x, "cycle 6", 1, 1, 40, 200, 2, 4, 0);
        x.cycle(1);
        registers(x, "cycle 7", 1, 1, 0, 0, 2, 4, 0);
        int[] wrong = {-1, 2, 6, Integer.MIN_VALUE, Integer.MAX_VALUE};
        for (int w : wrong) {
            Check.refused("cell(" + w + ", 0, 0)", Check.BOUNDS, () -> x.cell(w, 0, 0));
            Check.refused("cell(0, " + w + ", 0)", Check.BOUNDS, () -> x.cell(0, w, 0));
            Check.refused("cell(" + w + ", 0, 9)", Check.BOUNDS, () -> x.cell(w, 0, 9));
        }
        int[] others = {-1, 5, Integer.MIN_VALUE, Integer.MAX_VALUE};
        for (int w : others) {
            Check.refused("cell(1, 1, " + w + ")", Check.ILLEGAL, () -> x.cell(1, 1, w));
        }
    }

    /** The five that are due, in the order of cell's what. */
    private static void registers(SquareStream x, String when, int r, int c, int... due) {
        for (int i = Squares.INPUT; i <= Squares.MARK; i++) {
            int what = i;
            Check.due(when + " cell(" + r + ", " + c + ", " + what + ")", due[what], () -> x.cell(r, c, what));
        }
    }

    private static void promise6Wraps() {
        SquareStream x = new SquareStream();
        x.begin(2);
        x.weights(Integer.MAX_VALUE, Integer.MIN_VALUE, 0, 0, 0, 0);
        x.weights(Integer.MAX_VALUE, -1, 0, 0, 0, 0);
        x.vector(true, 3, 1, 0, 0, 0, 0);
        x.cycle(5);
        Check.due("a product wraps, a sum too", -4, () -> x.result(0, 0));
        Check.due("a sum wraps", 2147483645, () -> x.result(0, 1));
    }

    private static void promise7() {
        SquareStream x = new SquareStream();
        x.cycle(7);
        x.vector(false, 1, 0, 0, 0, 0, 0);
        x.vector(false, 1, 0, 0, 0, 0, 0);
        x.vector(true, 1, 0, 0, 0, 0, 0);
        Check.due("entered(0)", SquareStream.NONE, () -> x.entered(0));
        x.cycle(1);
        Check.due("entered(0)", 8, () -> x.entered(0));
        Check.due("entered(1)", SquareStream.NONE, () -> x.entered(1));
        x.cycle(5);
        Check.due("entered(0)", 8, () -> x.entered(0));
        Check.due("entered(1)", 9, () -> x.entered(1));
        Check.due("entered(2)", SquareStream.NONE, () -> x.entered(2));
        int[] wrong = {-1, 3, 200, Integer.MIN_VALUE, Integer.MAX_VALUE};
        for (int w : wrong) {
            Check.refused("entered(" + w + ")", Check.BOUNDS, () -> x.entered(w));
        }
    }

    private static void promise8() {
        for (int s = 1; s <= 6; s++) {
            int side = s;
            SquareStream x = new SquareStream();
            x.begin(side);
            for (int i = 0; i < side; i++) {
                x.weights(1, 2, 3, 4, 5, 6);
            }
            x.vector(true, 1, 1, 1, 1, 1, 1);
            x.vector(true, 1, 1, 1, 1, 1, 1);
            x.cycle(side);
            Check.refused("result of one that waits", Check.NO_ELEMENT, () -> x.result(0, 0));
            x.cycle(1);
            for (int i = 0; i < 2 * side - 2; i++) {
                Check.refused("too early, side " + side, Check.NO_ELEMENT, () -> x.result(0, 0));
                Check.refused("too early, side " + side, Check.NO_ELEMENT, () -> x.result(0, side - 1));
                x.cycle(1);
            }
            for (int i = 0; i < side; i++) {
                int c = i;
                Check.due("result(0, " + c + ")", side * (c + 1), () -> x.result(0, c));
            }
            Check.refused("the second waits", Check.NO_ELEMENT, () -> x.result(1, 0));
            x.cycle(1000);
            Check.due("a result stays", side * side, () -> x.result(0, side - 1));
            int[] wrong = {-1, 6, 200, Integer.MIN_VALUE, Integer.MAX_VALUE};
            for (int w : wrong) {
                Check.refused("result(" + w + ", 0)", Check.BOUNDS, () -> x.result(w, 0));
                Check.refused("result(0, " + w + ")", Check.BOUNDS, () -> x.result(0, w));
                Check.refused("result(1, " + w + "), no result either", Check.BOUNDS, () -> x.result(1, w));
            }
            Check.refused("result(2, 0)", Check.BOUNDS, () -> x.result(2, 0));
            Check.refused("result(0, side)", Check.BOUNDS, () -> x.result(0, side));
        }
    }

    /** Sets and vectors one behind the other: each result is the vector times its set. */
    private static void promise8IsTheProduct() {
        for (int side = 1; side <= 6; side++) {
            SquareStream x = new SquareStream();
            x.begin(side);
            for (int n = 0; n < 3 * side; n++) {
                x.weights(weight(n, 0), weight(n, 1), weight(n, 2), weight(n, 3), weight(n, 4), weight(n, 5));
            }
            for (int v = 0; v < 15; v++) {
                x.vector(v % 5 == 0, element(v, 0), element(v, 1), element(v, 2), element(v, 3), element(v, 4), element(v, 5));
            }
            x.cycle(300);
            for (int i = 0; i < 15 * side; i++) {
                int v = i / side;
                int c = i % side;
                Check.due("side " + side + " result(" + v + ", " + c + ")", product(side, v, c), () -> x.result(v, c));
            }
        }
    }

    private static int weight(int n, int c) {
        return n * n * 7 - c * 13 + n * c;
    }

    private static int element(int v, int r) {
        return v * 31 - r * r * 3 + 1;
    }

    /** A set's first row goes down to the bottom. */
    private static int product(int side, int v, int c) {
        int sum = 0;
        for (int r = 0; r < side; r++) {
            sum += element(v, r) * weight(v / 5 * side + side - 1 - r, c);
        }
        return sum;
    }

    private static void promise9() {
        SquareStream x = new SquareStream();
        x.begin(2);
        for (int i = 0; i < 5; i++) {
            x.weights(1, 1, 0, 0, 0, 0);
        }
        x.vector(true, 0, 0, 0, 0, 0, 0);
        x.vector(false, 0, 0, 0, 0, 0, 0);
        x.vector(true, 0, 0, 0, 0, 0, 0);
        abouts(x, "at first", 0, 3, 5, 0, 0, 0, 2);
        x.cycle(1);
        abouts(x, "cycle 1", 1, 3, 4, 0, 0, 0, 2);
        x.cycle(1);
        abouts(x, "cycle 2", 2, 3, 3, 0, 1, 0, 2);
        x.cycle(1);
        abouts(x, "cycle 3", 3, 2, 3, 1, 0, 1, 2);
        x.cycle(1);
        abouts(x, "cycle 4", 4, 1, 3, 1, 0, 3, 2);
        x.cycle(1);
        abouts(x, "cycle 5", 5, 1, 3, 1, 0, 3, 2);
        x.cycle(1);
        abouts(x, "cycle 6", 6, 1, 2, 1, 0, 1, 2);
        x.cycle(1);
        abouts(x, "cycle 7", 7, 1, 1, 1, 1, 0, 2);
        x.cycle(1);
        abouts(x, "cycle 8", 8, 0, 1, 2, 0, 1, 2);
        x.cycle(3);
        abouts(x, "cycle 11", 11, 0, 0, 2, 0, 0, 2);
        int[] wrong = {-1, 7, Integer.MIN_VALUE, Integer.MAX_VALUE};
        for (int w : wrong) {
            Check.refused("about(" + w + ")", Check.ILLEGAL, () -> x.about(w));
        }
    }

    private static void abouts(SquareStream x, String when, int... due) {
        for (int i = 0; i < due.length; i++) {
            int what = i;
            Check.due(when + " about(" + what + ")", due[what], () -> x.about(what));
        }
    }

    /** Elements of 0 come to cells as others do. */
    private static void promise9Reached() {
        SquareStream x = new SquareStream();
        x.begin(6);
        for (int i = 0; i < 6; i++) {
            x.vector(false, 0, 0, 0, 0, 0, 0);
        }
        int[] got = new int[18];
        for (int i = 0; i < got.length; i++) {
            x.cycle(1);
            got[i] = x.about(5);
            x.cycle(0);
            int at = i;
            Check.due("cells reached stay so, cycle " + (at + 1), got[at], () -> x.about(5));
        }
        Check.same("cells reached", reached(6, 6, got.length), Arrays.toString(got));
    }

    private static String reached(int side, int vectors, int cycles) {
        int[] count = new int[cycles];
        for (int v = 0; v < vectors; v++) {
            for (int r = 0; r < side; r++) {
                for (int c = 0; c < side; c++) {
                    count[v + r + c]++;
                }
            }
        }
        return Arrays.toString(count);
    }
}
