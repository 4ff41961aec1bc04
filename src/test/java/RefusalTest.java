import java.util.ArrayList;
import java.util.List;

/**
 * "A call that throws changes nothing.": in many states every call that must be
 * refused is made on one of two like squares, and the two stay alike.
 */
public final class RefusalTest {
    private record Refusal(String name, Class<? extends RuntimeException> due, Wrong wrong) {
    }

    private interface Wrong {
        long on(SquareStream x);
    }

    public static void main(String[] args) {
        List<Squares.Recipe> states = Squares.states();
        for (int s = 0; s < states.size(); s++) {
            for (Refusal refusal : refusals(states.get(s))) {
                changesNothing("state " + s + " " + refusal.name(), states.get(s), refusal);
            }
        }
        Check.end("RefusalTest");
    }

    private static void changesNothing(String name, Squares.Recipe state, Refusal refusal) {
        SquareStream refused = state.make();
        Check.refused(name, refusal.due(), () -> refusal.wrong().on(refused));
        Squares.alikeFromNow(name, state, refused);
    }

    private static List<Refusal> refusals(Squares.Recipe state) {
        SquareStream x = state.make();
        List<Refusal> all = new ArrayList<>();
        for (int side : new int[] {0, 7, -1, Integer.MIN_VALUE, Integer.MAX_VALUE}) {
            all.add(new Refusal("begin(" + side + ")", Check.ILLEGAL, y -> {
                y.begin(side);
                return 0;
            }));
        }
        int left = 100000 - x.about(0);
        for (int n : new int[] {-1, left + 1, Integer.MIN_VALUE, Integer.MAX_VALUE}) {
            all.add(new Refusal("cycle(" + n + ")", Check.ILLEGAL, y -> y.cycle(n)));
        }
        for (int what : new int[] {-1, 7, Integer.MIN_VALUE, Integer.MAX_VALUE}) {
            all.add(new Refusal("about(" + what + ")", Check.ILLEGAL, y -> y.about(what)));
        }
        addCells(all, x.about(6));
        addVectors(all, x, state.vectors());
        if (state.rows() == 120) {
            all.add(new Refusal("row 120", Check.UNSUPPORTED, y -> y.weights(9, 9, 9, 9, 9, 9)));
        }
        return all;
    }

    private static void addCells(List<Refusal> all, int side) {
        for (int k : new int[] {-1, side, Integer.MIN_VALUE, Integer.MAX_VALUE}) {
            all.add(new Refusal("cell(" + k + ", 0, 0)", Check.BOUNDS, y -> y.cell(k, 0, 0)));
            all.add(new Refusal("cell(0, " + k + ", 0)", Check.BOUNDS, y -> y.cell(0, k, 0)));
            all.add(new Refusal("result(0, " + k + ")", Check.BOUNDS, y -> y.result(0, k)));
        }
        for (int what : new int[] {-1, 5, Integer.MIN_VALUE, Integer.MAX_VALUE}) {
            all.add(new Refusal("cell(0, 0, " + what + ")", Check.ILLEGAL, y -> y.cell(0, 0, what)));
        }
    }

    private static void addVectors(List<Refusal> all, SquareStream x, int vectors) {
        for (int v : new int[] {-1, vectors, Integer.MIN_VALUE, Integer.MAX_VALUE}) {
            all.add(new Refusal("entered(" + v + ")", Check.BOUNDS, y -> y.entered(v)));
            all.add(new Refusal("result(" + v + ", 0)", Check.BOUNDS, y -> y.result(v, 0)));
        }
        int last = vectors - 1;
        if (vectors > 0 && x.entered(last) == SquareStream.NONE) {
            all.add(new Refusal("result(" + last + ", 0)", Check.NO_ELEMENT, y -> y.result(last, 0)));
        }
        if (vectors == 200) {
            all.add(new Refusal("vector 200", Check.UNSUPPORTED, y -> y.vector(false, 9, 9, 9, 9, 9, 9)));
            all.add(new Refusal("vector 200, fresh", Check.UNSUPPORTED, y -> y.vector(true, 9, 9, 9, 9, 9, 9)));
        }
    }
}
