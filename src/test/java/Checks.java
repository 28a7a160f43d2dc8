import java.util.function.LongSupplier;

/**
 * What the tests share: they hold answers against what is due, and count the wrong ones. A test
 * extends this class to have its functions at hand by their short names.
 */
abstract class Checks {
    static final int NONE = -1000000;
    static final int MOST_STUFF = 1000000000;
    static final int[] EXTREMES = {Integer.MIN_VALUE, Integer.MAX_VALUE};
    static final String ARGUMENT = "throws.IllegalArgumentException";
    static final String STATE = "throws.IllegalStateException";

    private static int wrong = 0;

    static void due(String what, long got, long want) {
        due(what, Long.toString(got), Long.toString(want));
    }

    static void due(String what, boolean got, boolean want) {
        due(what, Boolean.toString(got), Boolean.toString(want));
    }

    static void due(String what, String got, String want) {
        if (!got.equals(want)) {
            wrong++;
            System.out.println(what + ": answered " + got + ", due is " + want);
        }
    }

    static void illegalArgument(String what, LongSupplier call) {
        due(what, answer(call), ARGUMENT);
    }

    static void illegalState(String what, LongSupplier call) {
        due(what, answer(call), STATE);
    }

    static void allowed(String what, LongSupplier call) {
        String got = answer(call);
        due(what, got.startsWith("throws.") ? got : "a number", "a number");
    }

    // The very class of the exception counts, not one below it.
    static String answer(LongSupplier call) {
        try {
            return Long.toString(call.getAsLong());
        } catch (RuntimeException e) {
            return "throws." + e.getClass().getSimpleName();
        }
    }

    static long bit(boolean is) {
        return is ? 1 : 0;
    }

    static PressureNets netOf(int zones) {
        PressureNets x = new PressureNets();
        for (int k = 0; k < zones; k++) {
            x.zone(0, 100);
        }
        return x;
    }

    static void end(String test) {
        System.out.println(test + ": " + wrong + " wrong");
        if (wrong != 0) {
            System.exit(1);
        }
    }
}
