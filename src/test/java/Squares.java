import java.util.ArrayList;
import java.util.List;
import java.util.function.Supplier;

/** Squares with rows and vectors whose ints can be told from each other, and all that can be seen of one. */
final class Squares {
    static final int INPUT = 0;
    static final int SUM = 1;
    static final int WEIGHT = 2;
    static final int NEXT = 3;
    static final int MARK = 4;

    static final int[] SIDES = {1, 2, 3, 4, 5, 6};

    private Squares() {
    }

    static SquareStream of(int side) {
        SquareStream x = new SquareStream();
        x.begin(side);
        return x;
    }

    /** A square whose first set is complete behind its cycle number side. */
    static SquareStream withSet(int side) {
        SquareStream x = of(side);
        rows(x, 0, side);
        x.cycle(side);
        return x;
    }

    /** Rows number from, from + 1, .. with weight(n, c) in them. */
    static void rows(SquareStream x, int from, int count) {
        for (int n = from; n < from + count; n++) {
            x.weights(weight(n, 0), weight(n, 1), weight(n, 2), weight(n, 3), weight(n, 4), weight(n, 5));
        }
    }

    static int weight(int n, int c) {
        return 1000 + n * 10 + c;
    }

    /** The weight that a set's row brings to cell (r, c): its first row goes down to the bottom. */
    static int weightAt(int side, int set, int r, int c) {
        return weight(set * side + side - 1 - r, c);
    }

    /** Vector number v, with element(v, r) in it. */
    static void vector(SquareStream x, boolean fresh, int v) {
        x.vector(fresh, element(v, 0), element(v, 1), element(v, 2), element(v, 3), element(v, 4), element(v, 5));
    }

    static int element(int v, int r) {
        return 1 + v * 7 + r;
    }

    static int product(int side, int set, int v, int c) {
        int sum = 0;
        for (int r = 0; r < side; r++) {
            sum += element(v, r) * weightAt(side, set, r, c);
        }
        return sum;
    }

    /** All that can be seen of a square that so many vectors came to, without a call that is refused. */
    static String look(SquareStream x, int vectors) {
        List<Integer> seen = new ArrayList<>();
        for (int what = 0; what <= 6; what++) {
            seen.add(x.about(what));
        }
        int side = x.about(6);
        for (int i = 0; i < side * side * 5; i++) {
            seen.add(x.cell(i / 5 / side, i / 5 % side, i % 5));
        }
        for (int v = 0; v < vectors; v++) {
            int entered = x.entered(v);
            seen.add(entered);
            boolean hasResult = entered != SquareStream.NONE && x.about(0) >= entered + 2 * side - 2;
            for (int c = 0; c < side && hasResult; c++) {
                seen.add(x.result(v, c));
            }
        }
        return seen.toString();
    }

    /** How a square is made, and how many rows and vectors come to it then. */
    record Recipe(int rows, int vectors, Supplier<SquareStream> maker) {
        SquareStream make() {
            return maker.get();
        }
    }

    /**
     * The square made by the recipe and the other one look alike now, behind each of
     * some steps, and when all that can enter has entered. None of the calls made for
     * this is refused: a refused call that leaves a trace would leave it in both.
     */
    static void alikeFromNow(String name, Recipe due, SquareStream x) {
        SquareStream twin = due.make();
        int rows = due.rows();
        int vectors = due.vectors();
        Check.same(name + ": at once", look(twin, vectors), look(x, vectors));
        for (int step = 0; step < 20; step++) {
            int cycles = Math.min(2, 100000 - twin.about(0));
            goOn(twin, cycles, rows, vectors);
            goOn(x, cycles, rows, vectors);
            rows = Math.min(rows + 1, 120);
            vectors = Math.min(vectors + 2, 200);
            Check.same(name + ": step " + step, look(twin, vectors), look(x, vectors));
        }
        int rest = Math.min(3000, 100000 - twin.about(0));
        twin.cycle(rest);
        x.cycle(rest);
        Check.same(name + ": in the end", look(twin, vectors), look(x, vectors));
    }

    private static void goOn(SquareStream x, int cycles, int rows, int vectors) {
        x.cycle(cycles);
        if (rows < 120) {
            x.weights(9, 8, 7, 6, 5, 4);
        }
        if (vectors < 200) {
            x.vector(vectors % 4 == 0, 3, 4, 5, 6, 7, 8);
        }
        if (vectors < 199) {
            x.vector(false, 1, 2, 3, 4, 5, 6);
        }
    }

    /** Squares that are empty, under way, full, at the end. */
    static List<Recipe> states() {
        return List.of(
                new Recipe(0, 0, SquareStream::new),
                new Recipe(0, 0, () -> of(6)),
                new Recipe(6, 2, () -> waiting(3)),
                new Recipe(2, 1, () -> halfASet(4)),
                new Recipe(4, 2, () -> completeSet(2)),
                new Recipe(2, 3, () -> underWay(1, 2)),
                new Recipe(6, 3, () -> underWay(3, 6)),
                new Recipe(12, 3, () -> underWay(6, 14)),
                new Recipe(120, 200, () -> full(1)),
                new Recipe(120, 200, () -> full(6)),
                new Recipe(4, 3, () -> atTheLastCycle(2)));
    }

    private static SquareStream waiting(int side) {
        SquareStream x = of(side);
        rows(x, 0, 2 * side);
        vector(x, true, 0);
        vector(x, false, 1);
        return x;
    }

    private static SquareStream halfASet(int side) {
        SquareStream x = of(side);
        rows(x, 0, side / 2);
        vector(x, true, 0);
        x.cycle(side);
        return x;
    }

    private static SquareStream completeSet(int side) {
        SquareStream x = waiting(side);
        x.cycle(side);
        return x;
    }

    private static SquareStream underWay(int side, int cycles) {
        SquareStream x = waiting(side);
        vector(x, true, 2);
        x.cycle(cycles);
        return x;
    }

    private static SquareStream full(int side) {
        SquareStream x = of(side);
        rows(x, 0, 120);
        for (int v = 0; v < 200; v++) {
            vector(x, v % 9 == 0, v);
        }
        x.cycle(100);
        return x;
    }

    private static SquareStream atTheLastCycle(int side) {
        SquareStream x = waiting(side);
        x.cycle(100000);
        vector(x, false, 2);
        return x;
    }
}
