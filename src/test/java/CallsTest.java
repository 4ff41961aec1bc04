/** Promises 1 to 9: one method for each sentence that names a boundary. */
public final class CallsTest {
    private static final int LEAST = Integer.MIN_VALUE;
    private static final int GREATEST = Integer.MAX_VALUE;

    public static void main(String[] args) {
        aNewOneIsAsBeginOneMakesIt();
        beginLeavesNothing();
        beginTakesOneToSix();
        cyclesInOneCallOrMany();
        cycleTakesZero();
        cycleRefusesBelowZero();
        cyclesEndAtAHundredThousand();
        everyVectorLastsToTheEnd();
        aboutRefusesAnotherWhat();
        aboutCyclesAndSide();
        for (int side : Squares.SIDES) {
            weightsBeyondTheSideDontMatter(side);
            elementsBeyondTheSideDontMatter(side);
            rowsEndAt120(side);
            vectorsEndAt200(side);
            cellRefusesWhatIsNoCell(side);
            cellRefusesAnotherWhat(side);
            enteredIsNoneForOneThatWaits(side);
            enteredRefusesWhatIsNoVector(side);
            resultRefusesWhatIsNoVectorOrColumn(side);
            resultRefusesOneThatHasNoneYet(side);
            aboutWaitingOnes(side);
            aboutReachedCells(side);
            aboutReachedCellsOfZeros(side);
        }
        Check.end("CallsTest");
    }

    /** Promise 1: "Of side 1, as begin(1) makes it." */
    private static void aNewOneIsAsBeginOneMakesIt() {
        Check.due("a new one's side", 1, () -> new SquareStream().about(6));
        Squares.alikeFromNow("a new one", empty(1), new SquareStream());
    }

    private static Squares.Recipe empty(int side) {
        return new Squares.Recipe(0, 0, () -> Squares.of(side));
    }

    /** Promise 2: "A square of a side: no rows, no vectors, no cycles." */
    private static void beginLeavesNothing() {
        int state = 0;
        for (Squares.Recipe recipe : Squares.states()) {
            for (int side : Squares.SIDES) {
                SquareStream x = recipe.make();
                x.begin(side);
                Check.due("begun from state " + state + ": cycles", 0, () -> x.about(0));
                Check.due("begun from state " + state + ": vectors", 0, () -> x.about(1));
                Check.due("begun from state " + state + ": rows", 0, () -> x.about(2));
                Squares.alikeFromNow("begun from state " + state + ", side " + side, empty(side), x);
            }
            state++;
        }
    }

    /** Promise 2: "IllegalArgumentException if it is not 1 .. 6." */
    private static void beginTakesOneToSix() {
        SquareStream x = new SquareStream();
        for (int side = 1; side <= 6; side++) {
            x.begin(side);
            int due = side;
            Check.due("begin(" + side + ")", due, () -> x.about(6));
        }
        for (int wrong : new int[] {0, 7, -1, 8, 100, LEAST, GREATEST}) {
            Check.refusedDeed("begin(" + wrong + ")", Check.ILLEGAL, () -> x.begin(wrong));
            Check.due("the side behind begin(" + wrong + ")", 6, () -> x.about(6));
        }
    }

    /** Promise 3: "those beyond the side don't matter" */
    private static void weightsBeyondTheSideDontMatter(int side) {
        Squares.Recipe zeros = new Squares.Recipe(2 * side, 1, () -> withJunkWeights(side, 0));
        Squares.alikeFromNow("weights beyond side " + side, zeros, withJunkWeights(side, GREATEST));
    }

    private static SquareStream withJunkWeights(int side, int junk) {
        SquareStream x = Squares.of(side);
        for (int n = 0; n < 2 * side; n++) {
            int[] six = sixWithJunk(side, n, junk);
            x.weights(six[0], six[1], six[2], six[3], six[4], six[5]);
        }
        Squares.vector(x, true, 0);
        return x;
    }

    /** Promise 4: "those beyond the side don't matter" */
    private static void elementsBeyondTheSideDontMatter(int side) {
        Squares.Recipe zeros = new Squares.Recipe(side, 3, () -> withJunkElements(side, 0));
        Squares.alikeFromNow("elements beyond side " + side, zeros, withJunkElements(side, LEAST + 1));
    }

    private static SquareStream withJunkElements(int side, int junk) {
        SquareStream x = Squares.withSet(side);
        for (int v = 0; v < 3; v++) {
            int[] six = sixWithJunk(side, v, junk);
            x.vector(v == 0, six[0], six[1], six[2], six[3], six[4], six[5]);
        }
        return x;
    }

    private static int[] sixWithJunk(int side, int n, int junk) {
        int[] six = new int[6];
        for (int i = 0; i < 6; i++) {
            six[i] = i < side ? Squares.element(n, i) : junk;
        }
        return six;
    }

    /** Promise 3: "its number. UnsupportedOperationException if there are 120." */
    private static void rowsEndAt120(int side) {
        SquareStream x = Squares.of(side);
        for (int i = 0; i < 119; i++) {
            int n = i;
            Check.due("row " + n, n, () -> x.weights(n, n, n, n, n, n));
        }
        x.cycle(1);
        Check.due("the last row", 119, () -> x.weights(7, 7, 7, 7, 7, 7));
        String when = "side " + side + ": one row too many, ";
        Check.refused(when + "one is in", Check.UNSUPPORTED, () -> x.weights(0, 0, 0, 0, 0, 0));
        for (int i = 0; i < 120 / side; i++) {
            x.vector(true, 1, 1, 1, 1, 1, 1);
        }
        x.cycle(5000);
        Check.due("side " + side + ": rows that wait", 0, () -> x.about(2));
        Check.due("side " + side + ": the last row is above", 7, () -> x.cell(0, side - 1, Squares.NEXT));
        Check.refused(when + "all are in", Check.UNSUPPORTED, () -> x.weights(0, 0, 0, 0, 0, 0));
        Check.due("side " + side + ": vectors still come", 120 / side, () -> x.vector(false, 1, 1, 1, 1, 1, 1));
    }

    /** Promise 4: "its number. UnsupportedOperationException if there are 200." */
    private static void vectorsEndAt200(int side) {
        SquareStream x = Squares.of(side);
        for (int i = 0; i < 199; i++) {
            int v = i;
            Check.due("vector " + v, v, () -> x.vector(false, v, v, v, v, v, v));
        }
        x.cycle(1);
        Check.due("the last vector", 199, () -> x.vector(true, 7, 7, 7, 7, 7, 7));
        String when = "side " + side + ": one vector too many, ";
        Check.refused(when + "one is in", Check.UNSUPPORTED, () -> x.vector(false, 0, 0, 0, 0, 0, 0));
        Squares.rows(x, 0, side);
        x.cycle(500);
        Check.due("side " + side + ": vectors that wait", 0, () -> x.about(1));
        Check.due("side " + side + ": the last one", 200, () -> x.entered(199));
        Check.refused(when + "all are in", Check.UNSUPPORTED, () -> x.vector(true, 0, 0, 0, 0, 0, 0));
        Check.due("side " + side + ": rows still come", side, () -> x.weights(1, 1, 1, 1, 1, 1));
    }

    /** Promise 5: "So many cycles: how many there were in all." */
    private static void cyclesInOneCallOrMany() {
        for (Squares.Recipe state : Squares.states()) {
            SquareStream x = state.make();
            int first = x.about(0);
            int n = Math.min(300, 100000 - first);
            Check.due("cycle(" + n + ")", first + n, () -> x.cycle(n));
            Squares.Recipe oneByOne = new Squares.Recipe(state.rows(), state.vectors(), () -> cycledOneByOne(state, n));
            Squares.alikeFromNow("one call or many", oneByOne, x);
        }
    }

    private static SquareStream cycledOneByOne(Squares.Recipe state, int n) {
        SquareStream x = state.make();
        int first = x.about(0);
        for (int i = 1; i <= n; i++) {
            Check.due("cycle(1)", first + i, () -> x.cycle(1));
        }
        return x;
    }

    /** Promise 5: n may be 0, for only what is below is refused. */
    private static void cycleTakesZero() {
        for (Squares.Recipe state : Squares.states()) {
            SquareStream x = state.make();
            int cycles = x.about(0);
            Check.due("cycle(0)", cycles, () -> x.cycle(0));
            Squares.alikeFromNow("cycle(0)", state, x);
        }
    }

    /** Promise 5: "IllegalArgumentException if n is below 0" */
    private static void cycleRefusesBelowZero() {
        SquareStream x = Squares.of(2);
        for (int n : new int[] {-1, -2, -100000, LEAST, LEAST + 1}) {
            Check.refused("cycle(" + n + ") at first", Check.ILLEGAL, () -> x.cycle(n));
        }
        x.cycle(100000);
        for (int n : new int[] {-1, -2, -100000, LEAST, LEAST + 1}) {
            Check.refused("cycle(" + n + ") at the end", Check.ILLEGAL, () -> x.cycle(n));
        }
    }

    /** Promise 5: "or there would be more than 100000" */
    private static void cyclesEndAtAHundredThousand() {
        for (int first : new int[] {0, 1, 2, 50000, 99999, 100000}) {
            SquareStream x = Squares.of(3);
            x.cycle(first);
            int left = 100000 - first;
            String when = first + " cycles, then ";
            Check.refused(when + "one too many", Check.ILLEGAL, () -> x.cycle(left + 1));
            Check.refused(when + "the greatest", Check.ILLEGAL, () -> x.cycle(GREATEST));
            Check.refused(when + "the greatest that doesn't wrap", Check.ILLEGAL, () -> x.cycle(GREATEST - first));
            Check.due(when + "all that are left", 100000, () -> x.cycle(left));
            Check.refused(when + "one more", Check.ILLEGAL, () -> x.cycle(1));
            Check.due(when + "none", 100000, () -> x.cycle(0));
        }
    }

    /** Promise 5: the last of the 100000 cycles does what the others do. */
    private static void everyVectorLastsToTheEnd() {
        for (int side : Squares.SIDES) {
            SquareStream x = Squares.withSet(side);
            int toLast = 2 * side - 2;
            x.cycle(100000 - toLast - 1 - side);
            Squares.vector(x, true, 0);
            Squares.vector(x, false, 1);
            x.cycle(toLast + 1);
            Check.due("side " + side + ": the last result", Squares.product(side, 0, 0, side - 1),
                    () -> x.result(0, side - 1));
            if (side > 1) {
                Check.refused("side " + side + ": one too late", Check.NO_ELEMENT, () -> x.result(1, 0));
            } else {
                Check.due("side 1: no cycle is left for it", SquareStream.NONE, () -> x.entered(1));
            }
        }
    }

    /** Promise 6: "IndexOutOfBoundsException if there is no such cell" */
    private static void cellRefusesWhatIsNoCell(int side) {
        SquareStream x = Squares.withSet(side);
        for (int k : new int[] {-1, side, side + 1, 6, 7, LEAST, GREATEST}) {
            for (int what : new int[] {0, 1, 2, 3, 4, 5, -1}) {
                String when = "side " + side + " what " + what + ": ";
                Check.refused(when + "row " + k, Check.BOUNDS, () -> x.cell(k, 0, what));
                Check.refused(when + "column " + k, Check.BOUNDS, () -> x.cell(side - 1, k, what));
                Check.refused(when + "row and column " + k, Check.BOUNDS, () -> x.cell(k, k, what));
            }
        }
        // Flat places that lie in the square, though row and column don't.
        Check.refused("side " + side + ": (1, -1)", Check.BOUNDS, () -> x.cell(1, -1, 0));
        Check.refused("side " + side + ": (-1, 6)", Check.BOUNDS, () -> x.cell(-1, 6, 0));
    }

    /** Promise 6: "IllegalArgumentException for another what." */
    private static void cellRefusesAnotherWhat(int side) {
        SquareStream x = Squares.withSet(side);
        Squares.vector(x, true, 0);
        x.cycle(1);
        int[] due = {Squares.element(0, 0), Squares.element(0, 0) * Squares.weightAt(side, 0, 0, 0),
            Squares.weightAt(side, 0, 0, 0), Squares.weightAt(side, 0, 0, 0), 1};
        for (int i = 0; i < due.length; i++) {
            int what = i;
            Check.due("side " + side + ": cell(0, 0, " + what + ")", due[what], () -> x.cell(0, 0, what));
        }
        for (int what : new int[] {-1, 5, 6, LEAST, GREATEST}) {
            Check.refused("cell(0, 0, " + what + ")", Check.ILLEGAL, () -> x.cell(0, 0, what));
            Check.refused("the last cell, " + what, Check.ILLEGAL, () -> x.cell(side - 1, side - 1, what));
        }
    }

    /** Promise 7: "NONE if it waits" */
    private static void enteredIsNoneForOneThatWaits(int side) {
        SquareStream x = Squares.of(side);
        Squares.vector(x, false, 0);
        Check.due("side " + side + ": before a cycle", -1, () -> x.entered(0));
        x.cycle(0);
        Check.due("side " + side + ": behind cycle(0)", -1, () -> x.entered(0));
        x.cycle(1);
        Check.due("side " + side + ": behind cycle(1)", 1, () -> x.entered(0));
        Squares.vector(x, true, 1);
        x.cycle(99999);
        Check.due("side " + side + ": one that waits for ever", -1, () -> x.entered(1));
        Check.due("side " + side + ": long ago", 1, () -> x.entered(0));
    }

    /** Promise 7: "IndexOutOfBoundsException if there is no such vector." */
    private static void enteredRefusesWhatIsNoVector(int side) {
        SquareStream x = Squares.of(side);
        for (int vectors = 0; vectors < 3; vectors++) {
            for (int v : new int[] {-1, vectors, vectors + 1, 199, 200, LEAST, GREATEST}) {
                Check.refused(vectors + " vectors: entered(" + v + ")", Check.BOUNDS, () -> x.entered(v));
            }
            Squares.vector(x, false, vectors);
            x.cycle(vectors);
        }
        for (int v = 3; v < 200; v++) {
            Squares.vector(x, false, v);
        }
        Check.due("the last of 200", -1, () -> x.entered(199));
        Check.refused("200 vectors: entered(200)", Check.BOUNDS, () -> x.entered(200));
    }

    /** Promise 8: "IndexOutOfBoundsException if there is no such vector or column" */
    private static void resultRefusesWhatIsNoVectorOrColumn(int side) {
        SquareStream x = Squares.withSet(side);
        Check.refused("no vectors: result(0, 0)", Check.BOUNDS, () -> x.result(0, 0));
        Squares.vector(x, true, 0);
        x.cycle(2 * side);
        Squares.vector(x, true, 1);
        for (int k : new int[] {-1, side, side + 1, 6, 7, LEAST, GREATEST}) {
            Check.refused("side " + side + ": column " + k, Check.BOUNDS, () -> x.result(0, k));
            Check.refused("side " + side + ": column " + k + " of one that waits", Check.BOUNDS, () -> x.result(1, k));
        }
        for (int v : new int[] {-1, 2, 3, 199, 200, LEAST, GREATEST}) {
            Check.refused("side " + side + ": vector " + v, Check.BOUNDS, () -> x.result(v, 0));
            Check.refused("side " + side + ": vector and column " + v, Check.BOUNDS, () -> x.result(v, side));
        }
    }

    /** Promise 8: "NoSuchElementException if it has none yet." */
    private static void resultRefusesOneThatHasNoneYet(int side) {
        SquareStream x = Squares.withSet(side);
        Squares.vector(x, true, 0);
        Squares.vector(x, false, 1);
        Squares.vector(x, true, 2);
        Check.refused("side " + side + ": waits", Check.NO_ELEMENT, () -> x.result(0, 0));
        x.cycle(2 * side - 1);
        Check.due("side " + side + ": the first has one", Squares.product(side, 0, 0, 0), () -> x.result(0, 0));
        Check.refused("side " + side + ": the second not yet", Check.NO_ELEMENT, () -> x.result(1, 0));
        x.cycle(1);
        Check.due("side " + side + ": the second has one", Squares.product(side, 0, 1, 0), () -> x.result(1, 0));
        x.cycle(1000);
        Check.refused("side " + side + ": the third waits", Check.NO_ELEMENT, () -> x.result(2, side - 1));
    }

    /** Promise 9: "IllegalArgumentException for another what." */
    private static void aboutRefusesAnotherWhat() {
        for (Squares.Recipe recipe : Squares.states()) {
            SquareStream x = recipe.make();
            for (int what : new int[] {-1, 7, 8, LEAST, GREATEST}) {
                Check.refused("about(" + what + ")", Check.ILLEGAL, () -> x.about(what));
            }
        }
    }

    /** Promise 9: "0 cycles", "6 the side" */
    private static void aboutCyclesAndSide() {
        for (int side : Squares.SIDES) {
            SquareStream x = Squares.of(side);
            Check.due("no cycles", 0, () -> x.about(0));
            x.cycle(100000);
            Check.due("all cycles", 100000, () -> x.about(0));
            Check.due("the side", side, () -> x.about(6));
        }
    }

    /** Promise 9: "1 vectors that wait, 2 rows that wait, 3 fresh vectors that have entered, 4 whether a set is complete" */
    private static void aboutWaitingOnes(int side) {
        SquareStream x = Squares.of(side);
        Squares.rows(x, 0, 120);
        for (int v = 0; v < 200; v++) {
            Squares.vector(x, v < 2, v);
        }
        abouts(side, "full", x, 200, 120, 0, 0);
        x.cycle(side);
        abouts(side, "a set is in", x, 200, 120 - side, 0, 1);
        x.cycle(1);
        abouts(side, "a fresh one enters", x, 199, 120 - side, 1, 0);
        x.cycle(2 * side - 2);
        abouts(side, "rows wait for the mark", x, 199, 120 - side, 1, 0);
        x.cycle(side);
        abouts(side, "another set is in", x, 199, 120 - 2 * side, 1, 1);
        x.cycle(199);
        abouts(side, "empty", x, 0, 120 - Math.min(3, 120 / side) * side, 2, 1);
    }

    private static void abouts(int side, String when, SquareStream x, int... due) {
        for (int i = 0; i < due.length; i++) {
            int what = i + 1;
            Check.due("side " + side + ", " + when + ": about(" + what + ")", due[i], () -> x.about(what));
        }
    }

    /** Promise 9: "5 cells to whose INPUT an element of a vector has come in the latest cycle" */
    private static void aboutReachedCells(int side) {
        SquareStream x = Squares.of(side);
        Check.due("side " + side + ": no cycle yet", 0, () -> x.about(5));
        for (int v = 0; v < 2 * side - 1; v++) {
            Squares.vector(x, false, v);
        }
        Check.due("side " + side + ": those that wait reach none", 0, () -> x.about(5));
        x.cycle(1);
        Check.due("side " + side + ": the first cell", 1, () -> x.about(5));
        x.cycle(2 * side - 2);
        Check.due("side " + side + ": all cells", side * side, () -> x.about(5));
        x.cycle(0);
        Check.due("side " + side + ": the latest cycle is still the same", side * side, () -> x.about(5));
        x.cycle(1);
        Check.due("side " + side + ": all but the first", side * side - 1, () -> x.about(5));
        x.cycle(2 * side - 3 < 0 ? 0 : 2 * side - 3);
        Check.due("side " + side + ": the last cell", side == 1 ? 0 : 1, () -> x.about(5));
        x.cycle(1);
        Check.due("side " + side + ": none", 0, () -> x.about(5));
    }

    /** The same: an element of 0 comes to a cell, too, and a cell that is fed nothing has none. */
    private static void aboutReachedCellsOfZeros(int side) {
        SquareStream x = Squares.of(side);
        x.vector(false, 0, 0, 0, 0, 0, 0);
        int[] due = new int[2 * side];
        for (int i = 0; i < side * side; i++) {
            due[i / side + i % side]++;
        }
        for (int i = 0; i < due.length; i++) {
            int k = i;
            x.cycle(1);
            Check.due("side " + side + ": zeros, " + k + " cycles behind", due[k], () -> x.about(5));
        }
    }
}
