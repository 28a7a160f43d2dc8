import java.util.Random;
import java.util.function.LongSupplier;

/**
 * Runs of calls drawn from fixed seeds, each call asked of the class and of SlowNets. The first
 * argument, if there is one, is the number of runs; the second the first seed.
 */
public final class RandomRunsTest {
    private static final long ARGUMENT = Long.MIN_VALUE;
    private static final long STATE = Long.MIN_VALUE + 1;

    private final Random random;
    private final PressureNets fast = new PressureNets();
    private final SlowNets slow = new SlowNets();
    private final boolean isTight;
    private final boolean isRootOnly;
    private final boolean isExtreme;
    private final int mostZones;
    private int zones = 0;
    private int leaks = 0;
    private int fans = 0;

    private RandomRunsTest(long seed) {
        random = new Random(seed);
        isTight = random.nextInt(3) == 0;
        isRootOnly = random.nextInt(3) == 0;
        isExtreme = random.nextInt(4) == 0;
        mostZones = 1 + random.nextInt(9);
    }

    public static void main(String[] args) {
        int runs = args.length > 0 ? Integer.parseInt(args[0]) : 120;
        long first = args.length > 1 ? Long.parseLong(args[1]) : 1;
        int wrong = 0;
        for (long seed = first; seed < first + runs; seed++) {
            String fault = new RandomRunsTest(seed).firstFault();
            if (fault != null) {
                wrong++;
                System.out.println("seed " + seed + ": " + fault);
            }
        }
        System.out.println("RandomRunsTest: " + runs + " runs, " + wrong + " wrong");
        if (wrong != 0) {
            System.exit(1);
        }
    }

    private String firstFault() {
        int calls = 40 + random.nextInt(100);
        for (int k = 0; k < calls; k++) {
            String fault = k < 25 ? build() : ask();
            if (fault != null) {
                return "call " + k + ": " + fault;
            }
        }
        return null;
    }

    private static long answer(LongSupplier call) {
        try {
            return call.getAsLong();
        } catch (IllegalArgumentException e) {
            return ARGUMENT;
        } catch (IllegalStateException e) {
            return STATE;
        }
    }

    private static String compare(String name, LongSupplier got, LongSupplier due) {
        long g = answer(got);
        long d = answer(due);
        return g == d ? null : name + " answered " + g + ", due is " + d;
    }

    private String build() {
        int pick = random.nextInt(10);
        if (zones < 1 || zones < mostZones && pick < 3) {
            return zone();
        }
        if (pick < 8) {
            return leak();
        }
        return pick < 9 ? fan() : set(random.nextInt(3));
    }

    private String ask() {
        int pick = random.nextInt(24);
        if (pick < 6) {
            return set(pick);
        }
        if (pick == 6) {
            return zone();
        }
        if (pick == 7) {
            return leak();
        }
        if (pick == 8) {
            return fan();
        }
        return query(pick - 9);
    }

    private String set(int pick) {
        int a = number(-6, 9, -4, zones - 1);
        int k = number(-1, 21, 0, leaks - 1);
        switch (pick) {
            case 0: {
                int v = number(-1001, 1001, -1000, 1000);
                return compare("wind(" + a + ", " + v + ")", () -> fast.wind(a, v), () -> slow.wind(a, v));
            }
            case 1: {
                int v = number(-1001, 1001, -1000, 1000);
                return compare("warmth(" + a + ", " + v + ")", () -> fast.warmth(a, v), () -> slow.warmth(a, v));
            }
            case 2: {
                boolean is = random.nextBoolean();
                return compare("shut(" + k + ", " + is + ")", () -> fast.shut(k, is) ? 1 : 0, () -> slow.shut(k, is));
            }
            case 3: {
                int z = number(-1, 8, 0, zones - 1);
                int v = number(-1000000001, 1000000001, 0, random.nextBoolean() ? 1000 : 1000000000);
                return compare("put(" + z + ", " + v + ")", () -> fast.put(z, v), () -> slow.put(z, v));
            }
            case 4: {
                int z = number(-1, 8, 0, zones - 1);
                int v = number(-1, 1000001, 0, random.nextBoolean() ? 100 : 1000000);
                return compare("source(" + z + ", " + v + ")", () -> fast.source(z, v), () -> slow.source(z, v));
            }
            default: {
                int s = number(0, 1 << 20, 0, (1 << leaks) - 1) & (random.nextBoolean() ? -1 : random.nextInt());
                return compare("caseOf(" + s + ")", () -> fast.caseOf(s), () -> slow.caseOf(s));
            }
        }
    }

    private String zone() {
        int w = number(-1001, 1001, -1000, 1000);
        int v = number(0, 100001, 1, random.nextBoolean() ? 100 : 100000);
        return compare("zone(" + w + ", " + v + ")", () -> fast.zone(w, v), () -> {
            long z = slow.zone(w, v);
            zones = (int) z + 1;
            return z;
        });
    }

    private String leak() {
        int a = number(-5, 8, -4, zones - 1);
        int b = number(-5, 8, isTight ? 0 : -4, zones - 1);
        int h = number(-1, 101, 0, random.nextBoolean() ? 0 : 100);
        int area = number(0, 1001, 1, 1000);
        int wide = isTight && (a < 0 || b < 0) ? 1 + area % 4 : area;
        int kind = isRootOnly ? 0 : number(-1, 2, 0, 1);
        String name = "leak(" + a + ", " + b + ", " + h + ", " + wide + ", " + kind + ")";
        return compare(name, () -> fast.leak(a, b, h, wide, kind), () -> {
            long k = slow.leak(a, b, h, wide, kind);
            leaks = (int) k + 1;
            return k;
        });
    }

    private String fan() {
        int a = number(-5, 8, -4, zones - 1);
        int b = number(-5, 8, -4, zones - 1);
        int f = number(-1, 10001, 0, random.nextBoolean() ? 300 : 10000);
        int s = number(-1, 101, 0, random.nextBoolean() ? 3 : 100);
        return compare("fan(" + a + ", " + b + ", " + f + ", " + s + ")", () -> fast.fan(a, b, f, s), () -> {
            long k = slow.fan(a, b, f, s);
            fans = (int) k + 1;
            return k;
        });
    }

    private String query(int pick) {
        int place = number(-5, 8, -4, zones - 1);
        int z = number(-1, 8, 0, zones - 1);
        int k = number(-1, 21, 0, leaks - 1);
        int f = number(-1, 4, 0, fans - 1);
        int n = number(0, 201, 1, random.nextBoolean() ? 5 : 200);
        int two = number(-1, 2, 0, 1);
        int four = number(-1, 4, 0, 3);
        switch (pick % 8) {
            case 0:
                return compare("pressure(" + place + ")", () -> fast.pressure(place), () -> slow.pressure(place));
            case 1:
                return compare("told(" + k + ", " + two + ")", () -> fast.told(k, two), () -> slow.told(k, two));
            case 2:
                return compare("blows(" + f + ")", () -> fast.blows(f), () -> slow.blows(f));
            case 3:
                return compare("gain(" + z + ")", () -> fast.gain(z), () -> slow.gain(z));
            case 4:
                return compare("worst(" + k + ", " + four + ")", () -> fast.worst(k, four), () -> slow.worst(k, four));
            case 5:
                return compare("steps(" + n + ")", () -> fast.steps(n), () -> slow.steps(n));
            case 6:
                return compare("gone(" + place + ")", () -> fast.gone(place), () -> slow.gone(place));
            default:
                return compare("put(" + z + ", 0)", () -> fast.put(z, 0), () -> slow.put(z, 0));
        }
    }

    // Mostly within the narrow bounds, at times (in some runs mostly) their ends, at times anything
    // or the wide ends.
    private int number(int wideLeast, int wideMost, int least, int most) {
        int pick = random.nextInt(40);
        if (pick == 0) {
            return random.nextBoolean() ? wideLeast : wideMost;
        }
        if (pick == 1) {
            return random.nextInt();
        }
        if (most < least) {
            return least;
        }
        if (pick < (isExtreme ? 30 : 6)) {
            return pick % 2 == 0 ? least : most;
        }
        return least + random.nextInt(most - least + 1);
    }
}
