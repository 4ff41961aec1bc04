import java.util.NoSuchElementException;

/** Counts answers that are not as due; every test of the project ends by its end(). */
final class Check {
    private Check() {
    }

    interface Call {
        long run();
    }

    interface Deed {
        void run();
    }

    private static final int MOST_TOLD = 20;
    private static int asked = 0;
    private static int wrong = 0;

    static void due(String call, long want, Call call1) {
        compare(call, Long.toString(want), answer(call1));
    }

    /** The very class is due, not one below it: a machine's exception is no answer. */
    static void refused(String call, Class<? extends RuntimeException> want, Call call1) {
        compare(call, "throws." + want.getSimpleName(), answer(call1));
    }

    static void refusedDeed(String call, Class<? extends RuntimeException> want, Deed deed) {
        refused(call, want, () -> {
            deed.run();
            return 0;
        });
    }

    static void same(String what, String want, String got) {
        compare(what, want, got);
    }

    static void end(String test) {
        System.out.println(test + ": " + asked + " answers, " + wrong + " not as due");
        if (wrong != 0 || asked == 0) {
            System.exit(1);
        }
    }

    static boolean hasFailed() {
        return wrong != 0;
    }

    static final Class<IllegalArgumentException> ILLEGAL = IllegalArgumentException.class;
    static final Class<IndexOutOfBoundsException> BOUNDS = IndexOutOfBoundsException.class;
    static final Class<NoSuchElementException> NO_ELEMENT = NoSuchElementException.class;
    static final Class<UnsupportedOperationException> UNSUPPORTED = UnsupportedOperationException.class;

    /** What the call answers, or throws.E for the exception's very class E. */
    static String answer(Call call) {
        try {
            return Long.toString(call.run());
        } catch (RuntimeException e) {
            return "throws." + e.getClass().getSimpleName();
        }
    }

    private static void compare(String what, String want, String got) {
        asked++;
        if (!want.equals(got)) {
            wrong++;
            if (wrong <= MOST_TOLD) {
                System.out.println(what + " answered " + got + ", due is " + want);
            }
        }
    }
}
