import java.util.ArrayList;
import java.util.List;
import java.util.NoSuchElementException;

/**
 * The document's words once more, by other means than the program's: new cells in
 * every cycle, what is fed written down ahead by cycle, all sums of the last row kept.
 */
final class SlowSquare {
    private static final class Cell {
        int input;
        int sum;
        int weight;
        int next;
        boolean mark;
        boolean reached;
    }

    private static final class Vector {
        boolean fresh;
        int[] ints;
        int entered = -1;
    }

    private static final int MOST = 100000;

    private int side;
    private int cycles;
    private Cell[][] cells;
    private List<int[]> rows;
    private List<Vector> vectors;
    private int rowsIn;
    private int vectorsIn;
    private int freshIn;
    private int latestFresh;
    private boolean complete;
    private List<int[]> lastSums;
    private List<Vector> enteredIn;

    SlowSquare() {
        begin(1);
    }

    void begin(int newSide) {
        if (newSide < 1 || newSide > 6) {
            throw new IllegalArgumentException();
        }
        side = newSide;
        cycles = 0;
        cells = newCells();
        rows = new ArrayList<>();
        vectors = new ArrayList<>();
        rowsIn = 0;
        vectorsIn = 0;
        freshIn = 0;
        latestFresh = -1;
        complete = false;
        lastSums = new ArrayList<>();
        lastSums.add(new int[side]);
        enteredIn = new ArrayList<>();
        enteredIn.add(null);
    }

    int weights(int[] six) {
        if (rows.size() == 120) {
            throw new UnsupportedOperationException();
        }
        rows.add(six.clone());
        return rows.size() - 1;
    }

    int vector(boolean fresh, int[] six) {
        if (vectors.size() == 200) {
            throw new UnsupportedOperationException();
        }
        Vector v = new Vector();
        v.fresh = fresh;
        v.ints = six.clone();
        vectors.add(v);
        return vectors.size() - 1;
    }

    int cycle(int n) {
        if (n < 0 || (long) cycles + n > MOST) {
            throw new IllegalArgumentException();
        }
        for (int i = 0; i < n; i++) {
            one();
        }
        return cycles;
    }

    int cell(int r, int c, int what) {
        if (r < 0 || c < 0 || r >= side || c >= side) {
            throw new IndexOutOfBoundsException();
        }
        Cell x = cells[r][c];
        return switch (what) {
            case 0 -> x.input;
            case 1 -> x.sum;
            case 2 -> x.weight;
            case 3 -> x.next;
            case 4 -> x.mark ? 1 : 0;
            default -> throw new IllegalArgumentException();
        };
    }

    int entered(int v) {
        if (v < 0 || v >= vectors.size()) {
            throw new IndexOutOfBoundsException();
        }
        return vectors.get(v).entered;
    }

    int result(int v, int c) {
        if (v < 0 || v >= vectors.size() || c < 0 || c >= side) {
            throw new IndexOutOfBoundsException();
        }
        int e = vectors.get(v).entered;
        if (e == -1 || cycles < e + 2 * side - 2) {
            throw new NoSuchElementException();
        }
        return lastSums.get(e + side - 1 + c)[c];
    }

    int about(int what) {
        return switch (what) {
            case 0 -> cycles;
            case 1 -> vectors.size() - vectorsIn;
            case 2 -> rows.size() - rowsIn;
            case 3 -> freshIn;
            case 4 -> complete ? 1 : 0;
            case 5 -> reachedCells();
            case 6 -> side;
            default -> throw new IllegalArgumentException();
        };
    }

    int vectorsCome() {
        return vectors.size();
    }

    private int reachedCells() {
        int count = 0;
        for (Cell[] row : cells) {
            for (Cell x : row) {
                count += x.reached ? 1 : 0;
            }
        }
        return count;
    }

    private Cell[][] newCells() {
        Cell[][] made = new Cell[side][side];
        for (Cell[] row : made) {
            for (int c = 0; c < side; c++) {
                row[c] = new Cell();
            }
        }
        return made;
    }

    private void one() {
        cycles++;
        enter();
        letIn();
        goOn();
        int[] sums = new int[side];
        for (int c = 0; c < side; c++) {
            sums[c] = cells[side - 1][c].sum;
        }
        lastSums.add(sums);
    }

    private void enter() {
        Vector first = vectorsIn < vectors.size() ? vectors.get(vectorsIn) : null;
        if (first == null || (first.fresh && !complete)) {
            enteredIn.add(null);
            return;
        }
        vectorsIn++;
        first.entered = cycles;
        enteredIn.add(first);
        if (first.fresh) {
            complete = false;
            freshIn++;
            latestFresh = cycles;
        }
    }

    private void letIn() {
        boolean passed = freshIn == 0 || cycles > latestFresh + 2 * side - 2;
        if (rowsIn == rows.size() || complete || !passed) {
            return;
        }
        int[] row = rows.get(rowsIn);
        rowsIn++;
        for (int c = 0; c < side; c++) {
            int coming = row[c];
            for (int r = 0; r < side; r++) {
                int had = cells[r][c].next;
                cells[r][c].next = coming;
                coming = had;
            }
        }
        complete = rowsIn % side == 0;
    }

    private void goOn() {
        Cell[][] then = newCells();
        for (int r = 0; r < side; r++) {
            for (int c = 0; c < side; c++) {
                Cell x = then[r][c];
                x.next = cells[r][c].next;
                if (c > 0) {
                    x.input = cells[r][c - 1].input;
                    x.mark = cells[r][c - 1].mark;
                    x.reached = cells[r][c - 1].reached;
                } else {
                    Vector fed = cycles - r >= 1 ? enteredIn.get(cycles - r) : null;
                    x.input = fed == null ? 0 : fed.ints[r];
                    x.mark = fed != null && fed.fresh;
                    x.reached = fed != null;
                }
                x.weight = x.mark ? x.next : cells[r][c].weight;
                x.sum = (r == 0 ? 0 : cells[r - 1][c].sum) + x.weight * x.input;
            }
        }
        cells = then;
    }
}
