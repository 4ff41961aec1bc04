import java.util.Arrays;
import java.util.NoSuchElementException;

/** A square of cells that multiplies vectors by weights, cycle by cycle. */
public final class SquareStream {
    public static final int NONE = -1;

    private static final int MOST_SIDE = 6;
    private static final int MOST_CELLS = MOST_SIDE * MOST_SIDE;
    private static final int MOST_ROWS = 120;
    private static final int MOST_VECTORS = 200;
    private static final int MOST_CYCLES = 100000;
    // An element reaches cell (r, c) r + c cycles after its vector entered.
    private static final int MOST_AGES = 2 * MOST_SIDE - 1;

    // Rows, vectors and results lie flat, MOST_SIDE ints each, whatever the
    // side is, so that begin makes no new arrays.
    private final int[] rowInts = new int[MOST_ROWS * MOST_SIDE];
    private final int[] vectorInts = new int[MOST_VECTORS * MOST_SIDE];
    private final int[] resultInts = new int[MOST_VECTORS * MOST_SIDE];
    private final boolean[] isFresh = new boolean[MOST_VECTORS];
    private final int[] entryCycles = new int[MOST_VECTORS];
    // At k: the vector that entered k cycles before the latest one, or NONE.
    private final int[] enteredAgo = new int[MOST_AGES];

    // Cell (r, c) is at r * MOST_SIDE + c.
    private final int[] inputs = new int[MOST_CELLS];
    private final int[] sums = new int[MOST_CELLS];
    private final int[] factors = new int[MOST_CELLS];
    private final int[] nexts = new int[MOST_CELLS];
    private final boolean[] marks = new boolean[MOST_CELLS];

    private int side;
    private int cycles;
    private int rowsCome;
    private int rowsIn;
    // Rows that are in of the latest set that no fresh vector has ended.
    private int rowsOfSet;
    private int vectorsCome;
    private int vectorsIn;
    private int freshIn;
    private int latestFreshCycle;

    public SquareStream() {
        clearTo(1);
    }

    public void begin(int side) throws IllegalArgumentException {
        if (side < 1 || side > MOST_SIDE) {
            throw new IllegalArgumentException("the side is not 1 .. 6");
        }
        clearTo(side);
    }

    public int weights(int a, int b, int c, int d, int e, int f) throws UnsupportedOperationException {
        if (rowsCome >= MOST_ROWS) {
            throw new UnsupportedOperationException("there are 120 rows");
        }
        int number = rowsCome;
        int at = number * MOST_SIDE;
        rowInts[at] = a;
        rowInts[at + 1] = b;
        rowInts[at + 2] = c;
        rowInts[at + 3] = d;
        rowInts[at + 4] = e;
        rowInts[at + 5] = f;
        rowsCome = number + 1;
        return number;
    }

    public int vector(boolean fresh, int a, int b, int c, int d, int e, int f) throws UnsupportedOperationException {
        if (vectorsCome >= MOST_VECTORS) {
            throw new UnsupportedOperationException("there are 200 vectors");
        }
        int number = vectorsCome;
        int at = number * MOST_SIDE;
        vectorInts[at] = a;
        vectorInts[at + 1] = b;
        vectorInts[at + 2] = c;
        vectorInts[at + 3] = d;
        vectorInts[at + 4] = e;
        vectorInts[at + 5] = f;
        isFresh[number] = fresh;
        vectorsCome = number + 1;
        return number;
    }

    public int cycle(int n) throws IllegalArgumentException {
        if (n < 0 || n > MOST_CYCLES - cycles) {
            throw new IllegalArgumentException("n is below 0 or too many cycles");
        }
        int end = cycles + n;
        // A square at rest stays as it is, so the cycles left need only be
        // counted: a long idle run costs no more than a short one.
        for (int i = 0; i < n && !isAtRest(); i++) {
            runCycle();
        }
        cycles = end;
        return end;
    }

    public int cell(int r, int c, int what) throws IndexOutOfBoundsException, IllegalArgumentException {
        if (!isInSquare(r) || !isInSquare(c)) {
            throw new IndexOutOfBoundsException("there is no such cell");
        }
        int at = r * MOST_SIDE + c;
        switch (what) {
            case 0:
                return inputs[at];
            case 1:
                return sums[at];
            case 2:
                return factors[at];
            case 3:
                return nexts[at];
            case 4:
                return marks[at] ? 1 : 0;
            default:
                throw new IllegalArgumentException("what is not 0 .. 4");
        }
    }

    public int entered(int v) throws IndexOutOfBoundsException {
        if (!isVector(v)) {
            throw new IndexOutOfBoundsException("there is no such vector");
        }
        return v < vectorsIn ? entryCycles[v] : NONE;
    }

    public int result(int v, int c) throws IndexOutOfBoundsException, NoSuchElementException {
        if (!isVector(v) || !isInSquare(c)) {
            throw new IndexOutOfBoundsException("there is no such vector or column");
        }
        if (v >= vectorsIn || cycles - entryCycles[v] < crossing()) {
            throw new NoSuchElementException("the vector has no result yet");
        }
        return resultInts[v * MOST_SIDE + c];
    }

    public int about(int what) throws IllegalArgumentException {
        switch (what) {
            case 0:
                return cycles;
            case 1:
                return vectorsCome - vectorsIn;
            case 2:
                return rowsCome - rowsIn;
            case 3:
                return freshIn;
            case 4:
                return isSetComplete() ? 1 : 0;
            case 5:
                return countReachedCells();
            case 6:
                return side;
            default:
                throw new IllegalArgumentException("what is not 0 .. 6");
        }
    }

    private void clearTo(int newSide) {
        side = newSide;
        cycles = 0;
        rowsCome = 0;
        rowsIn = 0;
        rowsOfSet = 0;
        vectorsCome = 0;
        vectorsIn = 0;
        freshIn = 0;
        latestFreshCycle = 0;
        Arrays.fill(enteredAgo, NONE);
        Arrays.fill(inputs, 0);
        Arrays.fill(sums, 0);
        Arrays.fill(factors, 0);
        Arrays.fill(nexts, 0);
        for (int i = 0; i < MOST_CELLS; i++) {
            marks[i] = false;
        }
    }

    private boolean isInSquare(int place) {
        return place >= 0 && place < side;
    }

    private boolean isVector(int v) {
        return v >= 0 && v < vectorsCome;
    }

    /** The cycles from a vector's entry till it has come to the last cell. */
    private int crossing() {
        return 2 * side - 2;
    }

    /** Whether no cycle changes anything but the count of cycles, till another call does. */
    private boolean isAtRest() {
        // With no element on its way the latest fresh vector is a whole
        // crossing behind, so a row that can't come in now can't later.
        return !canVectorEnter() && !canRowComeIn(cycles + 1) && countReachedCells() == 0;
    }

    private boolean isSetComplete() {
        return rowsOfSet == side;
    }

    private boolean canVectorEnter() {
        return vectorsIn < vectorsCome && (!isFresh[vectorsIn] || isSetComplete());
    }

    private boolean canRowComeIn(int inCycle) {
        return rowsIn < rowsCome && !isSetComplete()
                && (freshIn == 0 || inCycle - latestFreshCycle > crossing());
    }

    private int countReachedCells() {
        int count = 0;
        for (int r = 0; r < side; r++) {
            for (int c = 0; c < side; c++) {
                if (enteredAgo[r + c] != NONE) {
                    count++;
                }
            }
        }
        return count;
    }

    private void runCycle() {
        cycles++;
        ageEntries();
        if (canVectorEnter()) {
            enterVector();
        }
        if (canRowComeIn(cycles)) {
            letRowIn();
        }
        goOn();
        keepResults();
    }

    private void ageEntries() {
        for (int k = MOST_AGES - 1; k > 0; k--) {
            enteredAgo[k] = enteredAgo[k - 1];
        }
        enteredAgo[0] = NONE;
    }

    private void enterVector() {
        int v = vectorsIn;
        vectorsIn = v + 1;
        enteredAgo[0] = v;
        entryCycles[v] = cycles;
        if (isFresh[v]) {
            rowsOfSet = 0;
            freshIn++;
            latestFreshCycle = cycles;
        }
    }

    private void letRowIn() {
        for (int r = side - 1; r > 0; r--) {
            for (int c = 0; c < side; c++) {
                nexts[r * MOST_SIDE + c] = nexts[(r - 1) * MOST_SIDE + c];
            }
        }
        for (int c = 0; c < side; c++) {
            nexts[c] = rowInts[rowsIn * MOST_SIDE + c];
        }
        rowsIn++;
        rowsOfSet++;
    }

    private void goOn() {
        // From the last cell to the first: the cells to the left and above
        // then still hold what they had before this cycle.
        for (int r = side - 1; r >= 0; r--) {
            for (int c = side - 1; c > 0; c--) {
                int at = r * MOST_SIDE + c;
                advance(r, at, inputs[at - 1], marks[at - 1]);
            }
            feed(r);
        }
    }

    private void feed(int r) {
        int v = enteredAgo[r];
        if (v == NONE) {
            advance(r, r * MOST_SIDE, 0, false);
        } else {
            advance(r, r * MOST_SIDE, vectorInts[v * MOST_SIDE + r], isFresh[v]);
        }
    }

    private void advance(int r, int at, int input, boolean mark) {
        inputs[at] = input;
        marks[at] = mark;
        if (mark) {
            factors[at] = nexts[at];
        }
        int above = r == 0 ? 0 : sums[at - MOST_SIDE];
        sums[at] = above + factors[at] * input;
    }

    private void keepResults() {
        int lastRow = side - 1;
        for (int c = 0; c < side; c++) {
            int v = enteredAgo[lastRow + c];
            if (v != NONE) {
                resultInts[v * MOST_SIDE + c] = sums[lastRow * MOST_SIDE + c];
            }
        }
    }
}
