/** The document's terms 1 and 2: one method for each sentence that names a boundary, on every side. */
public final class TermsTest {
    public static void main(String[] args) {
        theFirstCycleIsNumberOne();
        registersWrap();
        numbersBeginAtZero();
        for (int side : Squares.SIDES) {
            cellsEndAtTheSide(side);
            registersAreZeroAndMarksOffAtFirst(side);
            aSetIsCompleteWithItsLastRow(side);
            aSetIsCompleteTillAFreshVectorEnters(side);
            theNextRowsAreTheNextSet(side);
            oneVectorEntersACycle(side);
            nothingEntersWhenNoneWaits(side);
            aFreshVectorEntersBehindTheCycleOfTheLastRow(side);
            onlyTheFirstVectorThatWaitsEnters(side);
            aSecondFreshVectorWaitsForANewSet(side);
            elementsAreFedOneRowLaterEach(side);
            nothingIsFedAfterwards(side);
            theMarkIsFedLikeTheElements(side);
            aVectorThatIsNotFreshBringsNoMark(side);
            oneRowIsLetInACycle(side);
            noRowIsLetInWhileASetIsComplete(side);
            rowsWaitTillTheMarkIsThrough(side);
            rowsThatComeLateAreLetInAtOnce(side);
            theLatestFreshVectorCounts(side);
            vectorsThatAreNotFreshDelayNoRow(side);
            nextGoesDownAndIsGoneBelow(side);
            nextStaysWhenNoRowIsLetIn(side);
            aWeightIsTakenInTheCycleOfTheMark(side);
            theVectorBeforeAFreshOneHasTheOldWeights(side);
            aSumIsTheOneAboveAndTheProduct(side);
            theResultComesWithTheLastCell(side);
            theResultIsTheSumsOfTheLastRow(side);
            aResultStays(side);
        }
        Check.end("TermsTest");
    }

    /** "A CYCLE (numbered from 1)" */
    private static void theFirstCycleIsNumberOne() {
        SquareStream x = Squares.of(1);
        Squares.vector(x, false, 0);
        Check.due("the first cycle", 1, () -> x.cycle(1));
        Check.due("entered in the first cycle", 1, () -> x.entered(0));
    }

    /** "four registers, ints that wrap" */
    private static void registersWrap() {
        int[] ints = {Integer.MIN_VALUE, Integer.MIN_VALUE + 1, -65536, -1, 0, 1, 65536, Integer.MAX_VALUE};
        for (int w : ints) {
            for (int i : ints) {
                productWraps(w, i);
                sumWraps(w, i);
            }
        }
    }

    private static void productWraps(int w, int i) {
        String when = "weight " + w + " times " + i + ": ";
        SquareStream x = Squares.of(1);
        x.weights(w, 0, 0, 0, 0, 0);
        x.vector(true, i, 0, 0, 0, 0, 0);
        x.cycle(2);
        Check.due(when + "NEXT", w, () -> x.cell(0, 0, Squares.NEXT));
        Check.due(when + "WEIGHT", w, () -> x.cell(0, 0, Squares.WEIGHT));
        Check.due(when + "INPUT", i, () -> x.cell(0, 0, Squares.INPUT));
        Check.due(when + "SUM", (int) ((long) w * i), () -> x.cell(0, 0, Squares.SUM));
        Check.due(when + "result", (int) ((long) w * i), () -> x.result(0, 0));
    }

    private static void sumWraps(int a, int b) {
        SquareStream x = Squares.of(2);
        x.weights(a, b, 0, 0, 0, 0);
        x.weights(b, b, 0, 0, 0, 0);
        x.vector(true, 1, 1, 0, 0, 0, 0);
        x.cycle(5);
        Check.due("sum of " + a + " and " + b, (int) ((long) a + b), () -> x.result(0, 0));
        Check.due("sum of " + b + " twice", (int) ((long) b + b), () -> x.result(0, 1));
    }

    /** "Both are numbered from 0 as they come." */
    private static void numbersBeginAtZero() {
        SquareStream x = Squares.of(1);
        Check.due("the first row", 0, () -> x.weights(5, 0, 0, 0, 0, 0));
        Check.due("the first vector", 0, () -> x.vector(true, 5, 0, 0, 0, 0, 0));
        Check.due("the second row", 1, () -> x.weights(5, 0, 0, 0, 0, 0));
        x.cycle(10);
        Check.due("the second vector", 1, () -> x.vector(false, 5, 0, 0, 0, 0, 0));
        Check.due("the third row, those before are in", 2, () -> x.weights(5, 0, 0, 0, 0, 0));
        x.cycle(10);
        Check.due("the third vector, those before are in", 2, () -> x.vector(true, 5, 0, 0, 0, 0, 0));
    }

    /** "CELL (r, c), rows from the top and columns from the left, 0 .. side - 1" */
    private static void cellsEndAtTheSide(int side) {
        SquareStream x = Squares.withSet(side);
        for (int i = 0; i < side * side; i++) {
            int r = i / side;
            int c = i % side;
            Check.due(at(side, "NEXT", r, c), Squares.weightAt(side, 0, r, c), () -> x.cell(r, c, Squares.NEXT));
        }
        for (int i = 0; i < side; i++) {
            int k = i;
            Check.refused(at(side, "beyond", k, side), Check.BOUNDS, () -> x.cell(k, side, 0));
            Check.refused(at(side, "beyond", side, k), Check.BOUNDS, () -> x.cell(side, k, 0));
            Check.refused(at(side, "before", k, -1), Check.BOUNDS, () -> x.cell(k, -1, 0));
            Check.refused(at(side, "before", -1, k), Check.BOUNDS, () -> x.cell(-1, k, 0));
        }
    }

    /** "0 at first: INPUT, SUM, WEIGHT, NEXT; and a MARK, off at first" */
    private static void registersAreZeroAndMarksOffAtFirst(int side) {
        SquareStream x = Squares.of(side);
        Squares.rows(x, 0, side);
        Squares.vector(x, false, 0);
        allZero(x, side, "before the first cycle");
        SquareStream y = Squares.of(side);
        y.cycle(20);
        allZero(y, side, "behind empty cycles");
    }

    private static void allZero(SquareStream x, int side, String when) {
        for (int i = 0; i < side * side * 5; i++) {
            int at = i;
            Check.due("side " + side + " " + when + " register " + at, 0,
                    () -> x.cell(at / 5 / side, at / 5 % side, at % 5));
        }
    }

    /** "it is COMPLETE when its last one is in" */
    private static void aSetIsCompleteWithItsLastRow(int side) {
        SquareStream x = Squares.of(side);
        Squares.rows(x, 0, side - 1);
        x.cycle(side + 5);
        Check.due("side " + side + ": one row less is no set", 0, () -> x.about(4));
        Squares.rows(x, side - 1, 1);
        Check.due("side " + side + ": a row that waits is not in", 0, () -> x.about(4));
        x.cycle(1);
        Check.due("side " + side + ": the last one is in", 1, () -> x.about(4));
    }

    /** "till a fresh vector enters" */
    private static void aSetIsCompleteTillAFreshVectorEnters(int side) {
        SquareStream x = Squares.withSet(side);
        Squares.vector(x, false, 0);
        Squares.vector(x, true, 1);
        x.cycle(1);
        Check.due("side " + side + ": one that is not fresh ends no set", 1, () -> x.about(4));
        x.cycle(1);
        Check.due("side " + side + ": a fresh one ends the set", 0, () -> x.about(4));
        Check.due("side " + side + ": it has entered", side + 2, () -> x.entered(1));
    }

    /** "SIDE rows that were let in one behind the other (the first ones, the next ones, ..) are a SET" */
    private static void theNextRowsAreTheNextSet(int side) {
        SquareStream x = Squares.of(side);
        Squares.rows(x, 0, 3 * side - 1);
        for (int v = 0; v < 3; v++) {
            Squares.vector(x, true, v);
        }
        x.cycle(200);
        Check.due("side " + side + ": two sets and no third", 2, () -> x.about(3));
        Check.due("side " + side + ": all rows are in", 0, () -> x.about(2));
        Check.due("side " + side + ": the third set lacks a row", 0, () -> x.about(4));
        Squares.rows(x, 3 * side - 1, 1);
        x.cycle(1);
        Check.due("side " + side + ": the third set is complete", 1, () -> x.about(4));
        x.cycle(2 * side);
        for (int i = 0; i < 3 * side; i++) {
            int v = i / side;
            int c = i % side;
            Check.due("side " + side + ": result of set " + v, Squares.product(side, v, v, c), () -> x.result(v, c));
        }
    }

    /** "the first vector that waits enters" */
    private static void oneVectorEntersACycle(int side) {
        SquareStream x = Squares.of(side);
        for (int v = 0; v < 4; v++) {
            Squares.vector(x, false, v);
        }
        for (int i = 0; i < 4; i++) {
            int v = i;
            Check.due("side " + side + ": waits", SquareStream.NONE, () -> x.entered(v));
            x.cycle(1);
            Check.due("side " + side + ": enters without a set", v + 1, () -> x.entered(v));
            Check.due("side " + side + ": those behind wait", 3 - v, () -> x.about(1));
        }
    }

    /** "the first vector that waits enters": there may be none. */
    private static void nothingEntersWhenNoneWaits(int side) {
        SquareStream x = Squares.withSet(side);
        x.cycle(3);
        Check.due("side " + side + ": none is reached", 0, () -> x.about(5));
        Check.due("side " + side + ": none waits", 0, () -> x.about(1));
        Squares.vector(x, true, 0);
        x.cycle(1);
        Check.due("side " + side + ": enters in the next cycle", side + 4, () -> x.entered(0));
    }

    /** "if it is not fresh or a set is complete", and ENTERING comes before LETTING IN. */
    private static void aFreshVectorEntersBehindTheCycleOfTheLastRow(int side) {
        SquareStream x = Squares.of(side);
        Squares.rows(x, 0, side);
        Squares.vector(x, true, 0);
        x.cycle(side);
        Check.due("side " + side + ": not in the cycle of the last row", SquareStream.NONE, () -> x.entered(0));
        Check.due("side " + side + ": no fresh one has entered", 0, () -> x.about(3));
        x.cycle(1);
        Check.due("side " + side + ": in the cycle behind it", side + 1, () -> x.entered(0));
        Check.due("side " + side + ": one fresh one has entered", 1, () -> x.about(3));
    }

    /** "the first vector that waits": those behind a fresh one wait with it. */
    private static void onlyTheFirstVectorThatWaitsEnters(int side) {
        SquareStream x = Squares.of(side);
        Squares.vector(x, true, 0);
        Squares.vector(x, false, 1);
        x.cycle(30);
        Check.due("side " + side + ": both wait", 2, () -> x.about(1));
        Check.due("side " + side + ": the one behind", SquareStream.NONE, () -> x.entered(1));
        Squares.rows(x, 0, side);
        x.cycle(side + 2);
        Check.due("side " + side + ": the fresh one", 30 + side + 1, () -> x.entered(0));
        Check.due("side " + side + ": the one behind", 30 + side + 2, () -> x.entered(1));
    }

    /** A set is complete "till a fresh vector enters": the next fresh one needs another. */
    private static void aSecondFreshVectorWaitsForANewSet(int side) {
        SquareStream x = Squares.of(side);
        Squares.rows(x, 0, 2 * side);
        Squares.vector(x, true, 0);
        Squares.vector(x, true, 1);
        int second = (side + 1) + (2 * side - 1) + side;
        x.cycle(second - 1);
        Check.due("side " + side + ": the second set is complete", 1, () -> x.about(4));
        Check.due("side " + side + ": the second fresh one waits", SquareStream.NONE, () -> x.entered(1));
        x.cycle(1);
        Check.due("side " + side + ": the second fresh one", second, () -> x.entered(1));
    }

    /** "Its element r is fed to row r in the cycle r later than this one" */
    private static void elementsAreFedOneRowLaterEach(int side) {
        SquareStream x = Squares.of(side);
        Squares.vector(x, false, 0);
        for (int k = 0; k < 2 * side + 2; k++) {
            x.cycle(1);
            for (int i = 0; i < side * side; i++) {
                int r = i / side;
                int c = i % side;
                int due = r + c == k ? Squares.element(0, r) : 0;
                Check.due(at(side, k + " cycles behind, INPUT", r, c), due, () -> x.cell(r, c, Squares.INPUT));
            }
        }
    }

    /** "0 and off if nothing is" */
    private static void nothingIsFedAfterwards(int side) {
        SquareStream x = Squares.withSet(side);
        Squares.vector(x, true, 0);
        x.cycle(1);
        Check.due("side " + side + ": INPUT is fed", Squares.element(0, 0), () -> x.cell(0, 0, Squares.INPUT));
        Check.due("side " + side + ": the mark is fed", 1, () -> x.cell(0, 0, Squares.MARK));
        x.cycle(1);
        Check.due("side " + side + ": INPUT is 0 again", 0, () -> x.cell(0, 0, Squares.INPUT));
        Check.due("side " + side + ": the mark is off again", 0, () -> x.cell(0, 0, Squares.MARK));
        Check.due("side " + side + ": SUM is 0 again", 0, () -> x.cell(0, 0, Squares.SUM));
        x.cycle(2 * side);
        for (int i = 0; i < side * side; i++) {
            int r = i / side;
            int c = i % side;
            Check.due(at(side, "gone, INPUT", r, c), 0, () -> x.cell(r, c, Squares.INPUT));
            Check.due(at(side, "gone, SUM", r, c), 0, () -> x.cell(r, c, Squares.SUM));
            Check.due(at(side, "gone, MARK", r, c), 0, () -> x.cell(r, c, Squares.MARK));
        }
    }

    /** "with a fresh one the mark is fed, too, alike" */
    private static void theMarkIsFedLikeTheElements(int side) {
        SquareStream x = Squares.withSet(side);
        Squares.vector(x, true, 0);
        Squares.vector(x, false, 1);
        for (int k = 0; k < 2 * side + 2; k++) {
            x.cycle(1);
            for (int i = 0; i < side * side; i++) {
                int r = i / side;
                int c = i % side;
                int due = r + c == k ? 1 : 0;
                Check.due(at(side, k + " cycles behind, MARK", r, c), due, () -> x.cell(r, c, Squares.MARK));
            }
        }
    }

    /** "some of them FRESH": the others take no weights along, complete set or not. */
    private static void aVectorThatIsNotFreshBringsNoMark(int side) {
        SquareStream x = Squares.withSet(side);
        Squares.vector(x, false, 0);
        for (int k = 0; k < 2 * side; k++) {
            x.cycle(1);
            Check.due("side " + side + ": no mark", 0, () -> x.cell(0, 0, Squares.MARK));
            Check.due("side " + side + ": no weight", 0, () -> x.cell(side - 1, side - 1, Squares.WEIGHT));
        }
        Check.due("side " + side + ": times no weights", 0, () -> x.result(0, side - 1));
    }

    /** "the first row that waits is let in" */
    private static void oneRowIsLetInACycle(int side) {
        SquareStream x = Squares.of(side);
        Squares.rows(x, 0, side);
        for (int i = 0; i < side; i++) {
            int n = i;
            x.cycle(1);
            Check.due("side " + side + ": rows that wait", side - 1 - n, () -> x.about(2));
            Check.due("side " + side + ": the latest is above", Squares.weight(n, 0), () -> x.cell(0, 0, Squares.NEXT));
            Check.due("side " + side + ": the first is below", Squares.weight(0, 0), () -> x.cell(n, 0, Squares.NEXT));
        }
    }

    /** "if no set is complete" */
    private static void noRowIsLetInWhileASetIsComplete(int side) {
        SquareStream x = Squares.of(side);
        Squares.rows(x, 0, side + 1);
        Squares.vector(x, false, 0);
        x.cycle(side);
        Check.due("side " + side + ": a row is left", 1, () -> x.about(2));
        x.cycle(1);
        Check.due("side " + side + ": not in the next cycle", 1, () -> x.about(2));
        x.cycle(50);
        Check.due("side " + side + ": nor later", 1, () -> x.about(2));
        Check.due("side " + side + ": NEXT stays", Squares.weight(side - 1, 0), () -> x.cell(0, 0, Squares.NEXT));
    }

    /** "this cycle is more than 2 * side - 2 behind the one in which the latest of them did" */
    private static void rowsWaitTillTheMarkIsThrough(int side) {
        SquareStream x = Squares.withSet(side);
        Squares.rows(x, side, side);
        Squares.vector(x, true, 0);
        for (int behind = 0; behind <= 2 * side - 2; behind++) {
            x.cycle(1);
            Check.due("side " + side + ": " + behind + " behind no row is let in", side, () -> x.about(2));
        }
        Check.due("side " + side + ": the mark is in the last cell", 1, () -> x.cell(side - 1, side - 1, Squares.MARK));
        x.cycle(1);
        Check.due("side " + side + ": then one is", side - 1, () -> x.about(2));
        Check.due("side " + side + ": into row 0", Squares.weight(side, 0), () -> x.cell(0, 0, Squares.NEXT));
    }

    /** The same with rows that come only when the gap is nearly over, or long over. */
    private static void rowsThatComeLateAreLetInAtOnce(int side) {
        for (int late : new int[] {2 * side - 2, 2 * side - 1, 2 * side, 40}) {
            SquareStream x = Squares.withSet(side);
            Squares.vector(x, true, 0);
            x.cycle(late);
            Squares.rows(x, side, 1);
            x.cycle(1);
            int due = late > 2 * side - 2 ? 0 : 1;
            Check.due("side " + side + ": a row that comes in time for " + late, due, () -> x.about(2));
        }
    }

    /** "the latest of them": the gap is counted from the second fresh vector, not the first. */
    private static void theLatestFreshVectorCounts(int side) {
        SquareStream x = Squares.of(side);
        Squares.rows(x, 0, 2 * side + 1);
        Squares.vector(x, true, 0);
        x.cycle(100);
        Squares.vector(x, true, 1);
        x.cycle(1);
        Check.due("side " + side + ": the second fresh one", 101, () -> x.entered(1));
        x.cycle(2 * side - 2);
        Check.due("side " + side + ": the row waits", 1, () -> x.about(2));
        x.cycle(1);
        Check.due("side " + side + ": the row is in", 0, () -> x.about(2));
    }

    /** "if fresh vectors have entered": others count for nothing. */
    private static void vectorsThatAreNotFreshDelayNoRow(int side) {
        SquareStream x = Squares.of(side);
        for (int v = 0; v < 3; v++) {
            Squares.vector(x, false, v);
        }
        x.cycle(1);
        Squares.rows(x, 0, side);
        x.cycle(1);
        Check.due("side " + side + ": no gap before the first fresh one", side - 1, () -> x.about(2));
        x.cycle(30);
        Squares.vector(x, true, 3);
        for (int v = 4; v < 30; v++) {
            Squares.vector(x, false, v);
        }
        Squares.rows(x, side, 1);
        x.cycle(2 * side - 1);
        Check.due("side " + side + ": the gap of the fresh one", 1, () -> x.about(2));
        x.cycle(1);
        Check.due("side " + side + ": the others lengthen no gap", 0, () -> x.about(2));
    }

    /** "all NEXT go one cell down (those of the last row are gone), the row's ints come into those of row 0" */
    private static void nextGoesDownAndIsGoneBelow(int side) {
        SquareStream x = Squares.withSet(side);
        Squares.rows(x, side, side);
        Squares.vector(x, true, 0);
        x.cycle(2 * side - 1);
        for (int rowsIn = side; rowsIn <= 2 * side; rowsIn++) {
            for (int i = 0; i < side * side; i++) {
                int r = i / side;
                int c = i % side;
                Check.due(at(side, rowsIn + " rows in, NEXT", r, c), Squares.weight(rowsIn - 1 - r, c),
                        () -> x.cell(r, c, Squares.NEXT));
                Check.due(at(side, rowsIn + " rows in, WEIGHT", r, c), Squares.weightAt(side, 0, r, c),
                        () -> x.cell(r, c, Squares.WEIGHT));
            }
            x.cycle(1);
        }
    }

    /** NEXT goes down with a row that is let in, and with nothing else. */
    private static void nextStaysWhenNoRowIsLetIn(int side) {
        SquareStream x = Squares.of(side);
        Squares.rows(x, 0, 1);
        x.cycle(1);
        x.cycle(5);
        Check.due("side " + side + ": NEXT of row 0", Squares.weight(0, 0), () -> x.cell(0, 0, Squares.NEXT));
        int below = side == 1 ? Squares.weight(0, 0) : 0;
        Check.due("side " + side + ": NEXT of the last row", below, () -> x.cell(side - 1, 0, Squares.NEXT));
    }

    /** "A cell whose MARK is on then takes NEXT for its WEIGHT." */
    private static void aWeightIsTakenInTheCycleOfTheMark(int side) {
        SquareStream x = Squares.withSet(side);
        Squares.vector(x, true, 0);
        for (int k = 0; k <= 2 * side; k++) {
            x.cycle(1);
            for (int i = 0; i < side * side; i++) {
                int r = i / side;
                int c = i % side;
                int due = k >= r + c ? Squares.weightAt(side, 0, r, c) : 0;
                Check.due(at(side, k + " cycles behind, WEIGHT", r, c), due, () -> x.cell(r, c, Squares.WEIGHT));
            }
        }
    }

    /** The same, for vectors that run through the cells just before and behind the mark. */
    private static void theVectorBeforeAFreshOneHasTheOldWeights(int side) {
        SquareStream x = Squares.of(side);
        Squares.rows(x, 0, 2 * side);
        Squares.vector(x, true, 0);
        x.cycle(60);
        Squares.vector(x, false, 1);
        Squares.vector(x, true, 2);
        Squares.vector(x, false, 3);
        x.cycle(2 + 2 * side);
        for (int i = 0; i < side; i++) {
            int c = i;
            Check.due("side " + side + ": before", Squares.product(side, 0, 1, c), () -> x.result(1, c));
            Check.due("side " + side + ": fresh", Squares.product(side, 1, 2, c), () -> x.result(2, c));
            Check.due("side " + side + ": behind", Squares.product(side, 1, 3, c), () -> x.result(3, c));
        }
        Check.due("side " + side + ": no cycle between them", 62, () -> x.entered(2));
    }

    /** "SUM becomes the one that the cell above had (0 in row 0), and WEIGHT times INPUT, as they are now." */
    private static void aSumIsTheOneAboveAndTheProduct(int side) {
        SquareStream x = Squares.withSet(side);
        Squares.vector(x, true, 0);
        Squares.vector(x, false, 1);
        int[] before = new int[side * side];
        for (int k = 0; k < 2 * side + 2; k++) {
            x.cycle(1);
            int[] now = new int[side * side];
            for (int i = 0; i < side * side; i++) {
                int r = i / side;
                int c = i % side;
                int above = r == 0 ? 0 : before[i - side];
                int due = above + x.cell(r, c, Squares.WEIGHT) * x.cell(r, c, Squares.INPUT);
                Check.due(at(side, k + " cycles behind, SUM", r, c), due, () -> x.cell(r, c, Squares.SUM));
                now[i] = x.cell(r, c, Squares.SUM);
            }
            before = now;
        }
    }

    /** "A vector that entered in cycle e has its RESULT in cycle e + 2 * side - 2 and later" */
    private static void theResultComesWithTheLastCell(int side) {
        SquareStream x = Squares.withSet(side);
        Squares.vector(x, true, 0);
        for (int behind = -1; behind < 2 * side - 2; behind++) {
            for (int i = 0; i < side; i++) {
                int c = i;
                Check.refused("side " + side + ": " + behind + " behind, result(0, " + c + ")", Check.NO_ELEMENT,
                        () -> x.result(0, c));
            }
            x.cycle(1);
        }
        Check.due("side " + side + ": cycles", side + 1 + 2 * side - 2, () -> x.about(0));
        for (int i = 0; i < side; i++) {
            int c = i;
            Check.due("side " + side + ": result(0, " + c + ")", Squares.product(side, 0, 0, c), () -> x.result(0, c));
        }
    }

    /** "element c is the SUM that the last row had in column c behind cycle e + side - 1 + c" */
    private static void theResultIsTheSumsOfTheLastRow(int side) {
        SquareStream x = Squares.withSet(side);
        Squares.vector(x, true, 0);
        Squares.vector(x, false, 1);
        int[][] sums = new int[2 * side + 1][side];
        for (int k = 0; k < sums.length; k++) {
            x.cycle(1);
            for (int c = 0; c < side; c++) {
                sums[k][c] = x.cell(side - 1, c, Squares.SUM);
            }
        }
        for (int i = 0; i < side; i++) {
            int c = i;
            Check.due("side " + side + ": result(0, " + c + ")", sums[side - 1 + c][c], () -> x.result(0, c));
            Check.due("side " + side + ": result(1, " + c + ")", sums[side + c][c], () -> x.result(1, c));
        }
    }

    /** "and later" */
    private static void aResultStays(int side) {
        SquareStream x = Squares.of(side);
        Squares.rows(x, 0, 2 * side);
        Squares.vector(x, true, 0);
        x.cycle(50);
        Squares.vector(x, true, 1);
        for (int v = 2; v < 40; v++) {
            Squares.vector(x, false, v);
        }
        x.cycle(100000 - 50);
        for (int i = 0; i < side; i++) {
            int c = i;
            Check.due("side " + side + ": the first result", Squares.product(side, 0, 0, c), () -> x.result(0, c));
            Check.due("side " + side + ": the last result", Squares.product(side, 1, 39, c), () -> x.result(39, c));
        }
    }

    private static String at(int side, String what, int r, int c) {
        return "side " + side + ": " + what + " of (" + r + ", " + c + ")";
    }
}
