import java.util.Random;

/** Long runs of calls, the same every time, on the program and on SlowSquare: every answer alike. */
public final class ModelTest {
    private static final int RUNS = 400;
    private static final int CALLS = 512;

    private final Random random;
    private final String run;
    private final SquareStream program = new SquareStream();
    private final SlowSquare slow = new SlowSquare();
    private final int freshPercent;
    private final int wide;
    private int calls = 0;

    private ModelTest(int seed) {
        random = new Random(seed);
        run = "run " + seed + " call ";
        freshPercent = random.nextInt(60);
        wide = random.nextInt(2);
    }

    public static void main(String[] args) {
        for (int seed = 1; seed <= RUNS && !Check.hasFailed(); seed++) {
            new ModelTest(seed).go();
        }
        Check.end("ModelTest");
    }

    private void go() {
        begin(1 + random.nextInt(6));
        while (calls < CALLS && !Check.hasFailed()) {
            act();
            if (calls % 8 == 0) {
                lookAtAll();
            }
        }
        lookAtAll();
    }

    private void act() {
        calls++;
        int kind = random.nextInt(100);
        if (kind < 35) {
            int[] six = six();
            both("weights", () -> program.weights(six[0], six[1], six[2], six[3], six[4], six[5]), () -> slow.weights(six));
        } else if (kind < 60) {
            int[] six = six();
            boolean fresh = random.nextInt(100) < freshPercent;
            both("vector " + fresh, () -> program.vector(fresh, six[0], six[1], six[2], six[3], six[4], six[5]),
                    () -> slow.vector(fresh, six));
        } else if (kind < 94) {
            cycle(random.nextInt(4));
        } else if (kind < 96) {
            cycle(random.nextInt(40) - 3);
        } else if (kind < 99) {
            lookWrongly();
        } else if (random.nextInt(4) == 0) {
            begin(random.nextInt(9) - 1);
        } else if (random.nextInt(4) == 0) {
            cycle(random.nextInt(2000));
        }
    }

    private int[] six() {
        int[] six = new int[6];
        for (int i = 0; i < 6; i++) {
            six[i] = wide == 1 ? random.nextInt() : random.nextInt(19) - 9;
        }
        return six;
    }

    private void begin(int side) {
        both("begin " + side, () -> {
            program.begin(side);
            return 0;
        }, () -> {
            slow.begin(side);
            return 0;
        });
    }

    private void cycle(int n) {
        both("cycle " + n, () -> program.cycle(n), () -> slow.cycle(n));
    }

    private void lookWrongly() {
        int r = random.nextInt(10) - 2;
        int c = random.nextInt(10) - 2;
        int what = random.nextInt(10) - 2;
        int v = random.nextInt(230) - 10;
        look(r, c, what);
        both("entered " + v, () -> program.entered(v), () -> slow.entered(v));
        both("result " + v + " " + c, () -> program.result(v, c), () -> slow.result(v, c));
        both("about " + what, () -> program.about(what), () -> slow.about(what));
    }

    private void look(int r, int c, int what) {
        both("cell " + r + " " + c + " " + what, () -> program.cell(r, c, what), () -> slow.cell(r, c, what));
    }

    private void lookAtAll() {
        for (int i = -1; i <= 7; i++) {
            int what = i;
            both("about " + what, () -> program.about(what), () -> slow.about(what));
        }
        int side = slow.about(6);
        for (int i = 0; i < side * side * 5; i++) {
            look(i / 5 / side, i / 5 % side, i % 5);
        }
        for (int i = 0; i <= slow.vectorsCome(); i++) {
            int v = i;
            both("entered " + v, () -> program.entered(v), () -> slow.entered(v));
            for (int k = 0; k <= side; k++) {
                int c = k;
                both("result " + v + " " + c, () -> program.result(v, c), () -> slow.result(v, c));
            }
        }
    }

    private void both(String call, Check.Call ofProgram, Check.Call ofSlow) {
        Check.same(run + calls + ": " + call, Check.answer(ofSlow), Check.answer(ofProgram));
    }
}
