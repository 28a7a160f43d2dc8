import java.util.Random;

/**
 * THE STATE of houses with two zones, found straight from its definition: of all pairs of
 * pressures in which no zone gains, the one that is least in both.
 */
public final class DefinitionTest {
    private static final int HOUSES = 150;

    private final Random random;
    private final PressureNets fast = new PressureNets();
    private final SlowNets slow = new SlowNets();

    private DefinitionTest(long seed) {
        random = new Random(seed);
    }

    public static void main(String[] args) {
        int wrong = 0;
        for (int seed = 0; seed < HOUSES; seed++) {
            wrong += new DefinitionTest(seed).isRight() ? 0 : 1;
        }
        System.out.println("DefinitionTest: " + HOUSES + " houses, " + wrong + " wrong");
        if (wrong != 0) {
            System.exit(1);
        }
    }

    private boolean isRight() {
        build();
        int[] due = leastPair();
        boolean same = fast.pressure(0) == due[0] && fast.pressure(1) == due[1];
        if (!same) {
            System.out.println("answered " + fast.pressure(0) + ", " + fast.pressure(1)
                    + ", due is " + due[0] + ", " + due[1]);
        }
        return same;
    }

    private void build() {
        for (int k = 0; k < 2; k++) {
            int warmth = random.nextInt(2001) - 1000;
            fast.zone(warmth, 1);
            slow.zone(warmth, 1);
        }
        int mostArea = random.nextBoolean() ? 1000 : 5;
        addLeak(0, 1, 1000);
        int leaks = 1 + random.nextInt(5);
        for (int k = 0; k < leaks; k++) {
            addLeak(random.nextInt(2), -1 - random.nextInt(4), mostArea);
        }
        int fans = random.nextInt(4);
        for (int k = 0; k < fans; k++) {
            int zone = random.nextInt(2);
            int other = random.nextBoolean() ? 1 - zone : -1 - random.nextInt(4);
            int flow = random.nextInt(random.nextBoolean() ? 10001 : 200);
            int slope = random.nextInt(5);
            boolean in = random.nextBoolean();
            fast.fan(in ? other : zone, in ? zone : other, flow, slope);
            slow.fan(in ? other : zone, in ? zone : other, flow, slope);
        }
        for (int side = -4; side < 0; side++) {
            int wind = random.nextInt(2001) - 1000;
            fast.wind(side, wind);
            slow.wind(side, wind);
        }
    }

    private void addLeak(int a, int b, int mostArea) {
        int height = random.nextInt(101);
        int area = 1 + random.nextInt(mostArea);
        int kind = random.nextInt(2);
        fast.leak(a, b, height, area, kind);
        slow.leak(a, b, height, area, kind);
    }

    // The first zone gains the less, the lower the second is: for each pressure of the first the
    // least that keeps the second from gaining is the one to look at.
    private int[] leastPair() {
        int[] pair = new int[2];
        for (pair[0] = -5000; pair[0] <= 5000; pair[0]++) {
            int low = -5001;
            int high = 5001;
            while (high - low > 1) {
                pair[1] = Math.floorDiv(low + high, 2);
                if (slow.gainAt(1, pair, 0) > 0) {
                    low = pair[1];
                } else {
                    high = pair[1];
                }
            }
            pair[1] = high;
            if (high <= 5000 && slow.gainAt(0, pair, 0) <= 0) {
                return pair;
            }
        }
        return new int[] {PressureNets.NONE, PressureNets.NONE};
    }
}
