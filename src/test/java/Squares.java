import java.util.ArrayList;
import java.util.List;

/** Squares with rows and vectors whose ints can be told from each other, and all that can be seen of one. */
final class Squares {
    static final int INPUT = 0;
    static final int SUM = 1;
    static final int WEIGHT = 2;
    static final int NEXT = 3;
    static final int MARK = 4;

    static final int[] SIDES = {1, 2, 3, 4, 5, 6};

    private Squares() {
    }

    static SquareStream of(int side) {
        SquareStream x = new SquareStream();
        x.begin(side);
        return x;
    }

    /** A square whose first set is complete behind its cycle number side. */
    static SquareStream withSet(int side) {
        SquareStream x = of(side);
        rows(x, 0, side);
        x.cycle(side);
        return x;
    }

    /** Rows number from, from + 1, .. with weight(n, c) in them. */
    static void rows(SquareStream x, int from, int count) {
        for (int n = from; n < from + count; n++) {
            x.weights(weight(n, 0), weight(n, 1), weight(n, 2), weight(n, 3), weight(n, 4), weight(n, 5));
        }
    }

    static int weight(int n, int c) {
        return 1000 + n * 10 + c;
    }

    /** The weight that a set's row brings to cell (r, c): its first row goes down to the bottom. */
    static int weightAt(int side, int set, int r, int c) {
        return weight(set * side + side - 1 - r, c);
    }

    /** Vector number v, with element(v, r) in it. */
    static void vector(SquareStream x, boolean fresh, int v) {
        x.vector(fresh, element(v, 0), element(v, 1), element(v, 2), element(v, 3), element(v, 4), element(v, 5));
    }

    static int element(int v, int r) {
        return 1 + v * 7 + r;
    }

    static int product(int side, int set, int v, int c) {
        int sum = 0;
        for (int r = 0; r < side; r++) {
            sum += element(v, r) * weightAt(side, set, r, c);
        }
        return sum;
    }

    /** Every answer of the calls that only look. */
    static String look(SquareStream x) {
        List<String> seen = new ArrayList<>();
        for (int i = 0; i <= 6; i++) {
            int what = i;
            seen.add(Check.answer(() -> x.about(what)));
        }
        int side = x.about(6);
        for (int i = 0; i < side * side * 5; i++) {
            int at = i;
            seen.add(Check.answer(() -> x.cell(at / 5 / side, at / 5 % side, at % 5)));
        }
        for (int i = 0; i <= 200; i++) {
            int v = i;
            String entered = Check.answer(() -> x.entered(v));
            seen.add("vector " + v + " " + entered);
            if (entered.startsWith("throws")) {
                break;
            }
            for (int k = 0; k < side; k++) {
                int c = k;
                seen.add(Check.answer(() -> x.result(v, c)));
            }
        }
        return seen.toString();
    }

    /** The two look alike now and behind each of some steps. */
    static void alikeFromNow(String name, SquareStream due, SquareStream x) {
        Check.same(name + ": at once", look(due), look(x));
        for (int step = 0; step < 20; step++) {
            goOn(due);
            goOn(x);
            Check.same(name + ": step " + step, look(due), look(x));
        }
    }

    /** Of a full square, or in the last cycle, some of these are refused. */
    private static void goOn(SquareStream x) {
        Check.answer(() -> x.cycle(2));
        Check.answer(() -> x.weights(9, 8, 7, 6, 5, 4));
        Check.answer(() -> x.vector(true, 3, 4, 5, 6, 7, 8));
        Check.answer(() -> x.vector(false, 1, 2, 3, 4, 5, 6));
    }

    interface Recipe {
        SquareStream make();
    }

    /** Recipes for squares that are empty, under way, full, at the end. */
    static List<Recipe> states() {
        return List.of(
                SquareStream::new,
                () -> of(6),
                () -> waiting(3),
                () -> halfASet(4),
                () -> completeSet(2),
                () -> underWay(1, 2),
                () -> underWay(3, 6),
                () -> underWay(6, 14),
                () -> full(1),
                () -> full(6),
                () -> atTheLastCycle(2));
    }

    private static SquareStream waiting(int side) {
        SquareStream x = of(side);
        rows(x, 0, 2 * side);
        vector(x, true, 0);
        vector(x, false, 1);
        return x;
    }

    private static SquareStream halfASet(int side) {
        SquareStream x = of(side);
        rows(x, 0, side / 2);
        vector(x, true, 0);
        x.cycle(side);
        return x;
    }

    private static SquareStream completeSet(int side) {
        SquareStream x = waiting(side);
        x.cycle(side);
        return x;
    }

    private static SquareStream underWay(int side, int cycles) {
        SquareStream x = waiting(side);
        vector(x, true, 2);
        x.cycle(cycles);
        return x;
    }

    private static SquareStream full(int side) {
        SquareStream x = of(side);
        rows(x, 0, 120);
        for (int v = 0; v < 200; v++) {
            vector(x, v % 9 == 0, v);
        }
        x.cycle(100);
        return x;
    }

    private static SquareStream atTheLastCycle(int side) {
        SquareStream x = waiting(side);
        x.cycle(100000);
        vector(x, false, 2);
        return x;
    }
}
