/** Each promise of the document by itself: ordinary inputs, the edges, wrong inputs. */
public final class PromisesTest extends Checks {
    public static void main(String[] args) {
        newObject();
        zone();
        wind();
        warmth();
        leak();
        shut();
        fan();
        pressure();
        pressureAtTheEnds();
        pressureOfTightZones();
        told();
        toldRoots();
        blows();
        gain();
        caseOf();
        worst();
        worstWithoutState();
        put();
        source();
        steps();
        stepsThatAreNotDone();
        gone();
        end("PromisesTest");
    }

    // Promise 1
    private static void newObject() {
        PressureNets x = new PressureNets();
        due("1 NONE", PressureNets.NONE, -1000000);
        for (int side = -4; side <= -1; side++) {
            due("1 pressure of a side", x.pressure(side), 0);
            due("1 gone by a side", x.gone(side), 0);
            due("1 warmth of the air", x.warmth(side, 0), 0);
            due("1 wind of a side", x.wind(side, 0), 0);
        }
        illegalArgument("1 a zone", () -> x.pressure(0));
        illegalArgument("1 a leak", () -> x.told(0, 0));
        illegalArgument("1 a fan", () -> x.blows(0));
        due("1 steps without zones", x.steps(200), 200);
        due("1 the empty case", x.caseOf(0), 0);
        PressureNets other = netOf(1);
        other.wind(-1, 7);
        due("1 objects are apart", x.pressure(-1), 0);
    }

    // Promise 2
    private static void zone() {
        PressureNets x = new PressureNets();
        illegalArgument("2 too cold", () -> x.zone(-1001, 1));
        illegalArgument("2 too warm", () -> x.zone(1001, 1));
        illegalArgument("2 no volume", () -> x.zone(0, 0));
        illegalArgument("2 too large", () -> x.zone(0, 100001));
        for (int n : EXTREMES) {
            illegalArgument("2 extreme warmth", () -> x.zone(n, 1));
            illegalArgument("2 extreme volume", () -> x.zone(0, n));
        }
        due("2 first, least", x.zone(-1000, 1), 0);
        due("2 second, most", x.zone(1000, 100000), 1);
        due("2 its warmth", x.warmth(0, 5), -1000);
        due("2 its warmth", x.warmth(1, 5), 1000);
        for (int k = 2; k < 8; k++) {
            due("2 number", x.zone(0, 10), k);
        }
        illegalState("2 ninth", () -> x.zone(0, 10));
        illegalArgument("2 ninth, and wrong", () -> x.zone(0, 0));
        due("2 the eighth is there", x.pressure(7), -5000);
        illegalArgument("2 the ninth is not", () -> x.pressure(8));
    }

    // Promise 3
    private static void wind() {
        PressureNets x = netOf(1);
        due("3 first", x.wind(-1, 1000), 0);
        due("3 then", x.wind(-1, -1000), 1000);
        due("3 other side", x.wind(-4, 12), 0);
        illegalArgument("3 too much", () -> x.wind(-1, 1001));
        illegalArgument("3 too little", () -> x.wind(-1, -1001));
        illegalArgument("3 a zone", () -> x.wind(0, 5));
        illegalArgument("3 no side", () -> x.wind(-5, 5));
        for (int n : EXTREMES) {
            illegalArgument("3 extreme side", () -> x.wind(n, 5));
            illegalArgument("3 extreme wind", () -> x.wind(-2, n));
        }
        due("3 is its pressure", x.pressure(-1), -1000);
        due("3 is its pressure", x.pressure(-4), 12);
        due("3 not that of others", x.pressure(-2), 0);
        x.leak(-4, 0, 0, 10, 1);
        due("3 presses into a zone", x.pressure(0), 12);
        x.wind(-4, -40);
        due("3 a new wind, a new state", x.pressure(0), -40);
    }

    // Promise 4
    private static void warmth() {
        PressureNets x = new PressureNets();
        x.zone(200, 1);
        x.leak(0, -3, 100, 10, 1);
        due("4 warm air presses out", x.pressure(0), -200);
        due("4 of a zone", x.warmth(0, 50), 200);
        due("4 colder", x.pressure(0), -50);
        due("4 of the air by any side", x.warmth(-1, 30), 0);
        due("4 of the air by another", x.warmth(-4, 60), 30);
        due("4 outside warmer", x.pressure(0), 10);
        due("4 least", x.warmth(0, -1000), 50);
        due("4 most", x.warmth(0, 1000), -1000);
        illegalArgument("4 too cold", () -> x.warmth(0, -1001));
        illegalArgument("4 too warm", () -> x.warmth(-1, 1001));
        illegalArgument("4 no zone", () -> x.warmth(1, 0));
        illegalArgument("4 no side", () -> x.warmth(-5, 0));
        for (int n : EXTREMES) {
            illegalArgument("4 extreme place", () -> x.warmth(n, 0));
            illegalArgument("4 extreme warmth", () -> x.warmth(0, n));
        }
        due("4 wrong calls change nothing", x.warmth(0, 0), 1000);
        due("4 wrong calls change nothing", x.warmth(-2, 0), 60);
    }

    // Promise 5
    private static void leak() {
        PressureNets x = netOf(2);
        illegalArgument("5 both one", () -> x.leak(1, 1, 0, 1, 0));
        illegalArgument("5 one side", () -> x.leak(-1, -1, 0, 1, 0));
        illegalArgument("5 both sides", () -> x.leak(-1, -4, 0, 1, 0));
        illegalArgument("5 no zone", () -> x.leak(0, 2, 0, 1, 0));
        illegalArgument("5 no place", () -> x.leak(-5, 0, 0, 1, 0));
        illegalArgument("5 too low", () -> x.leak(0, 1, -1, 1, 0));
        illegalArgument("5 too high", () -> x.leak(0, 1, 101, 1, 0));
        illegalArgument("5 no area", () -> x.leak(0, 1, 0, 0, 0));
        illegalArgument("5 too wide", () -> x.leak(0, 1, 0, 1001, 0));
        illegalArgument("5 kind 2", () -> x.leak(0, 1, 0, 1, 2));
        illegalArgument("5 kind -1", () -> x.leak(0, 1, 0, 1, -1));
        for (int n : EXTREMES) {
            illegalArgument("5 extreme a", () -> x.leak(n, 0, 0, 1, 0));
            illegalArgument("5 extreme b", () -> x.leak(0, n, 0, 1, 0));
            illegalArgument("5 extreme height", () -> x.leak(0, 1, n, 1, 0));
            illegalArgument("5 extreme area", () -> x.leak(0, 1, 0, n, 0));
            illegalArgument("5 extreme kind", () -> x.leak(0, 1, 0, 1, n));
        }
        due("5 least", x.leak(0, -4, 0, 1, 0), 0);
        due("5 most", x.leak(-1, 1, 100, 1000, 1), 1);
        for (int k = 2; k < 20; k++) {
            due("5 number", x.leak(k % 2, 1 - k % 2, 3, 10, k % 2), k);
        }
        illegalState("5 the 21st", () -> x.leak(0, 1, 0, 1, 0));
        illegalArgument("5 the 21st, and wrong", () -> x.leak(0, 0, 0, 1, 0));
        due("5 the 20th is there", x.told(19, 0), 0);
    }

    // Promise 6
    private static void shut() {
        PressureNets x = netOf(1);
        x.leak(0, -1, 0, 3, 1);
        x.leak(-2, 0, 0, 5, 1);
        x.wind(-1, 100);
        due("6 before", x.pressure(0), 38);
        due("6 open at first", x.shut(0, true) ? 1 : 0, 0);
        due("6 again", x.shut(0, true) ? 1 : 0, 1);
        due("6 the other alone", x.pressure(0), 0);
        due("6 its drive stays", x.told(0, 0), -100);
        due("6 nothing flows", x.told(0, 1), 0);
        due("6 of the other", x.shut(1, false) ? 1 : 0, 0);
        due("6 opened", x.shut(0, false) ? 1 : 0, 1);
        due("6 open again", x.shut(0, false) ? 1 : 0, 0);
        due("6 as before", x.pressure(0), 38);
        illegalArgument("6 no such leak", () -> x.shut(2, true) ? 1 : 0);
        illegalArgument("6 below", () -> x.shut(-1, true) ? 1 : 0);
        for (int n : EXTREMES) {
            illegalArgument("6 extreme", () -> x.shut(n, false) ? 1 : 0);
        }
    }

    // Promise 7
    private static void fan() {
        PressureNets x = netOf(2);
        illegalArgument("7 both one", () -> x.fan(1, 1, 1, 0));
        illegalArgument("7 both sides", () -> x.fan(-1, -2, 1, 0));
        illegalArgument("7 no zone", () -> x.fan(2, 0, 1, 0));
        illegalArgument("7 no place", () -> x.fan(0, -5, 1, 0));
        illegalArgument("7 flow below", () -> x.fan(0, 1, -1, 0));
        illegalArgument("7 flow above", () -> x.fan(0, 1, 10001, 0));
        illegalArgument("7 slope below", () -> x.fan(0, 1, 1, -1));
        illegalArgument("7 slope above", () -> x.fan(0, 1, 1, 101));
        for (int n : EXTREMES) {
            illegalArgument("7 extreme a", () -> x.fan(n, 0, 1, 0));
            illegalArgument("7 extreme b", () -> x.fan(0, n, 1, 0));
            illegalArgument("7 extreme flow", () -> x.fan(0, 1, n, 0));
            illegalArgument("7 extreme slope", () -> x.fan(0, 1, 1, n));
        }
        due("7 least", x.fan(0, 1, 0, 0), 0);
        due("7 most", x.fan(-1, 0, 10000, 100), 1);
        due("7 third", x.fan(1, -4, 5, 1), 2);
        due("7 fourth", x.fan(1, 0, 5, 1), 3);
        illegalState("7 fifth", () -> x.fan(0, 1, 1, 0));
        illegalArgument("7 fifth, and wrong", () -> x.fan(0, 1, 1, 101));
        due("7 presses until it stops", x.pressure(0), 100);
    }

    // Promise 8
    private static void pressure() {
        PressureNets x = netOf(1);
        due("8 a zone by itself", x.pressure(0), -5000);
        x.leak(-1, 0, 0, 3, 1);
        x.leak(0, -2, 0, 5, 1);
        x.wind(-1, 100);
        due("8 least whole number without gain", x.pressure(0), 38);
        x.wind(-2, -300);
        due("8 below 0", x.pressure(0), -150);
        x.leak(0, -3, 0, 1000, 0);
        due("8 a wide root leak", x.pressure(0), -1);
        due("8 of a side", x.pressure(-2), -300);
        due("8 a new zone is apart", x.zone(0, 1), 1);
        due("8 a new zone is apart", x.pressure(1), -5000);
        illegalArgument("8 no zone", () -> x.pressure(2));
        illegalArgument("8 no side", () -> x.pressure(-5));
        for (int n : EXTREMES) {
            illegalArgument("8 extreme", () -> x.pressure(n));
        }
        x.fan(-1, 1, 1, 0);
        due("8 none for the closed zone", x.pressure(1), NONE);
        due("8 nor for the others", x.pressure(0), NONE);
        due("8 but for the sides", x.pressure(-1), 100);
    }

    private static void pressureAtTheEnds() {
        PressureNets high = netOf(1);
        high.leak(0, -1, 0, 1, 1);
        high.fan(-1, 0, 5000, 0);
        due("8 the highest", high.pressure(0), 5000);
        high.fan(-2, 0, 1, 0);
        due("8 past the highest", high.pressure(0), NONE);
        PressureNets low = netOf(1);
        low.leak(0, -1, 0, 1, 1);
        low.fan(0, -1, 5000, 0);
        due("8 the lowest", low.pressure(0), -5000);
        due("8 the lowest, gain", low.gain(0), 0);
        low.fan(0, -1, 999, 0);
        due("8 below the lowest it may lose", low.pressure(0), -5000);
        due("8 below the lowest it may lose", low.gain(0), -999);
    }

    // Whole numbers make tight zones settle far from where halves would: one step between the two
    // already moves a thousand.
    private static void pressureOfTightZones() {
        PressureNets pair = netOf(2);
        pair.fan(-1, 0, 100, 0);
        pair.leak(0, 1, 0, 1000, 1);
        pair.leak(1, -1, 0, 1, 1);
        due("8 tight, first", pair.pressure(0), 1001);
        due("8 tight, second", pair.pressure(1), 1000);
        due("8 tight, gain", pair.gain(0), -900);
        PressureNets row = netOf(8);
        for (int z = 0; z < 7; z++) {
            row.leak(z, z + 1, 0, 1000, 1);
        }
        row.leak(7, -4, 0, 1, 0);
        row.wind(-4, 777);
        for (int z = 0; z < 8; z++) {
            due("8 a row of tight zones", row.pressure(z), 777);
        }
        row.fan(0, -1, 1, 0);
        due("8 a row with a small fan out", row.pressure(0), 777);
        due("8 a row with a small fan out", row.gain(0), -1);
    }

    // Promise 9
    private static void told() {
        PressureNets x = netOf(2);
        x.wind(-1, 10);
        x.leak(0, -1, 0, 7, 1);
        x.leak(0, 1, 50, 9, 1);
        x.leak(-1, 1, 0, 20, 1);
        due("9 no drive", x.told(0, 0), 0);
        x.warmth(0, 3);
        due("9 drive, 1.5 is rounded down", x.told(1, 0), x.pressure(0) - x.pressure(1) + 1);
        x.warmth(0, -3);
        due("9 drive, -1.5 is rounded up", x.told(1, 0), x.pressure(0) - x.pressure(1) - 1);
        x.shut(1, true);
        due("9 drive of a shut leak", x.told(1, 0), -1);
        due("9 flow of a shut leak", x.told(1, 1), 0);
        x.fan(0, -1, 70, 0);
        due("9 drive below 0", x.told(0, 0), -10);
        due("9 flow below 0", x.told(0, 1), -70);
        illegalArgument("9 what 2", () -> x.told(0, 2));
        illegalArgument("9 what -1", () -> x.told(0, -1));
        illegalArgument("9 no leak", () -> x.told(3, 0));
        illegalArgument("9 no leak", () -> x.told(-1, 0));
        for (int n : EXTREMES) {
            illegalArgument("9 extreme leak", () -> x.told(n, 0));
            illegalArgument("9 extreme what", () -> x.told(0, n));
        }
        x.zone(0, 1);
        x.fan(-1, 2, 1, 0);
        due("9 drive without state", x.told(0, 0), NONE);
        due("9 flow without state", x.told(0, 1), NONE);
        due("9 a shut leak without state", x.told(1, 1), NONE);
    }

    private static void toldRoots() {
        int[][] areaDriveFlow = {{1, 1, 1}, {1, 3, 1}, {1, 4, 2}, {1, 999, 31}, {5, 20, 22}, {7, 7, 18},
            {999, 1000, 31591}, {1000, 999, 31606}, {1000, 1000, 31622}};
        for (int[] row : areaDriveFlow) {
            PressureNets out = netWithDrive(row[1], row[2]);
            int leak = out.leak(0, -1, 0, row[0], 0);
            due("9 drive out", out.told(leak, 0), row[1]);
            due("9 root flow out", out.told(leak, 1), row[2]);
            PressureNets back = netWithDrive(row[1], row[2]);
            leak = back.leak(-1, 0, 0, row[0], 0);
            due("9 drive back", back.told(leak, 0), -row[1]);
            due("9 root flow back", back.told(leak, 1), -row[2]);
        }
    }

    // The fans make up for what a leak is to take, so that nothing flows through the wide leak
    // here and the zone stands at its wind.
    private static PressureNets netWithDrive(int drive, int flow) {
        PressureNets x = netOf(1);
        x.leak(-2, 0, 0, 1000, 1);
        x.wind(-2, drive);
        int rest = flow;
        for (int k = 0; k < 4; k++) {
            int part = Math.min(rest, 10000);
            x.fan(-3, 0, part, 0);
            rest -= part;
        }
        return x;
    }

    // Promise 10
    private static void blows() {
        PressureNets x = netOf(1);
        x.fan(0, -1, 10, 1);
        due("10 not less than 0", x.blows(0), 0);
        x.leak(0, -2, 0, 1000, 1);
        due("10 without a difference", x.blows(0), 10);
        x.wind(-1, 4);
        due("10 against a difference", x.blows(0), 6);
        x.wind(-1, -4);
        due("10 with a difference", x.blows(0), 14);
        x.wind(-1, -10);
        due("10 twice the flow", x.blows(0), 20);
        x.wind(-1, -11);
        due("10 not more than twice the flow", x.blows(0), 20);
        x.wind(-1, 10);
        due("10 down to 0", x.blows(0), 0);
        x.fan(-3, 0, 500, 0);
        due("10 without slope", x.blows(1), 500);
        illegalArgument("10 no fan", () -> x.blows(2));
        illegalArgument("10 no fan", () -> x.blows(-1));
        for (int n : EXTREMES) {
            illegalArgument("10 extreme", () -> x.blows(n));
        }
        x.shut(0, true);
        due("10 without state", x.blows(0), NONE);
    }

    // Promise 11
    private static void gain() {
        PressureNets x = netOf(2);
        due("11 a zone by itself", x.gain(1), 0);
        x.leak(-1, 0, 0, 3, 1);
        x.leak(0, -2, 0, 5, 1);
        x.wind(-1, 100);
        due("11 what rounding leaves", x.gain(0), -4);
        x.fan(0, 1, 1, 1);
        due("11 a fan counts for both", x.gain(0), -4);
        due("11 a fan counts for both", x.gain(1), 0);
        illegalArgument("11 no zone", () -> x.gain(2));
        illegalArgument("11 a side", () -> x.gain(-1));
        for (int n : EXTREMES) {
            illegalArgument("11 extreme", () -> x.gain(n));
        }
        x.fan(-1, 1, 1, 0);
        due("11 without state", x.gain(0), NONE);
    }

    // Promise 12
    private static void caseOf() {
        PressureNets x = netOf(1);
        illegalArgument("12 no leak at all", () -> x.caseOf(1));
        due("12 none shut", x.caseOf(0), 0);
        x.leak(0, -1, 0, 1, 1);
        x.leak(0, -2, 0, 1, 1);
        due("12 both", x.caseOf(3), 1);
        illegalArgument("12 a bit for no leak", () -> x.caseOf(4));
        illegalArgument("12 a bit for no leak", () -> x.caseOf(7));
        illegalArgument("12 below 0", () -> x.caseOf(-1));
        for (int n : EXTREMES) {
            illegalArgument("12 extreme", () -> x.caseOf(n));
        }
        due("12 the same again is another", x.caseOf(3), 2);
        for (int k = 2; k < 20; k++) {
            x.leak(0, -2, 0, 1, 1);
        }
        due("12 all twenty", x.caseOf((1 << 20) - 1), 3);
        illegalArgument("12 a 21st", () -> x.caseOf(1 << 20));
        for (int k = 4; k < 8; k++) {
            due("12 number", x.caseOf(k), k);
        }
        illegalState("12 ninth", () -> x.caseOf(0));
        illegalArgument("12 ninth, and wrong", () -> x.caseOf(1 << 20));
        due("12 a case shuts nothing now", x.shut(0, false) ? 1 : 0, 0);
    }

    // Promise 13
    private static void worst() {
        PressureNets x = netOf(1);
        x.leak(0, -1, 0, 10, 1);
        x.leak(0, -2, 0, 10, 1);
        x.leak(0, -3, 0, 10, 1);
        x.wind(-1, 60);
        x.wind(-2, 120);
        for (int what = 0; what < 4; what++) {
            due("13 without cases", x.worst(0, what), NONE);
        }
        x.caseOf(2);
        due("13 one case", x.worst(0, 0), -30);
        due("13 one case", x.worst(0, 1), -30);
        due("13 one case", x.worst(0, 2), 0);
        due("13 one case", x.worst(0, 3), 0);
        x.caseOf(4);
        x.caseOf(1);
        x.caseOf(4);
        x.caseOf(2);
        due("13 least", x.worst(0, 0), -30);
        due("13 greatest", x.worst(0, 1), 30);
        due("13 least case with the least", x.worst(0, 2), 0);
        due("13 least case with the greatest", x.worst(0, 3), 1);
        due("13 another leak", x.worst(2, 0), 30);
        due("13 another leak", x.worst(2, 1), 90);
        x.shut(1, true);
        x.shut(2, true);
        due("13 what is shut now is not in a case", x.worst(0, 1), 30);
        x.wind(-1, 0);
        due("13 a new wind", x.worst(0, 1), 60);
        illegalArgument("13 what 4", () -> x.worst(0, 4));
        illegalArgument("13 what -1", () -> x.worst(0, -1));
        illegalArgument("13 no leak", () -> x.worst(3, 0));
        illegalArgument("13 no leak", () -> x.worst(-1, 0));
        for (int n : EXTREMES) {
            illegalArgument("13 extreme leak", () -> x.worst(n, 0));
            illegalArgument("13 extreme what", () -> x.worst(0, n));
        }
    }

    private static void worstWithoutState() {
        PressureNets x = netOf(1);
        x.leak(0, -1, 0, 10, 1);
        x.fan(-1, 0, 20, 0);
        x.caseOf(0);
        due("13 with a state", x.worst(0, 1), 2);
        x.caseOf(1);
        for (int what = 0; what < 4; what++) {
            due("13 a case without state", x.worst(0, what), NONE);
        }
        due("13 the state now stands", x.pressure(0), 2);
    }

    // Promise 14
    private static void put() {
        PressureNets x = netOf(2);
        due("14 nothing", x.put(0, 0), 0);
        due("14 all", x.put(0, 1000000000), 1000000000);
        illegalArgument("14 above", () -> x.put(0, 1));
        due("14 all out", x.put(0, -1000000000), 0);
        illegalArgument("14 below", () -> x.put(0, -1));
        due("14 some", x.put(0, 5), 5);
        due("14 some more", x.put(0, 6), 11);
        due("14 some less", x.put(0, -4), 7);
        due("14 another zone", x.put(1, 0), 0);
        illegalArgument("14 out of bounds", () -> x.put(0, 1000000001));
        illegalArgument("14 out of bounds", () -> x.put(0, -1000000001));
        illegalArgument("14 no zone", () -> x.put(2, 1));
        illegalArgument("14 a side", () -> x.put(-1, 1));
        for (int n : EXTREMES) {
            illegalArgument("14 extreme zone", () -> x.put(n, 1));
            illegalArgument("14 extreme amount", () -> x.put(0, n));
        }
        due("14 wrong calls change nothing", x.put(0, 0), 7);
    }

    // Promise 15
    private static void source() {
        PressureNets x = netOf(2);
        due("15 first", x.source(0, 1000000), 0);
        due("15 then", x.source(0, 0), 1000000);
        due("15 then", x.source(0, 12), 0);
        due("15 another zone", x.source(1, 5), 0);
        illegalArgument("15 below", () -> x.source(0, -1));
        illegalArgument("15 above", () -> x.source(0, 1000001));
        illegalArgument("15 no zone", () -> x.source(2, 1));
        illegalArgument("15 a side", () -> x.source(-1, 1));
        for (int n : EXTREMES) {
            illegalArgument("15 extreme zone", () -> x.source(n, 1));
            illegalArgument("15 extreme amount", () -> x.source(0, n));
        }
        x.steps(3);
        due("15 each step", x.put(0, 0), 36);
        due("15 each step", x.put(1, 0), 15);
    }

    // Promise 16: of zone 0 (volume 100) 30 go by a leak, 20 by a fan, out of 100 or of all.
    private static void steps() {
        PressureNets x = netOf(2);
        x.leak(0, 1, 0, 30, 1);
        x.leak(1, -1, 0, 30, 1);
        x.fan(-2, 0, 50, 0);
        x.fan(0, -3, 20, 0);
        due("16 first zone", x.pressure(0), 2);
        due("16 second zone", x.pressure(1), 1);
        x.put(0, 1001);
        x.put(1, 10);
        due("16 one", x.steps(1), 1);
        due("16 kept in the first", x.put(0, 0), 1001 - 300 - 200);
        due("16 carried on to the second", x.put(1, 0), 10 - 3 + 300);
        due("16 gone by a leak", x.gone(-1), 3);
        due("16 gone by a fan", x.gone(-3), 200);
        due("16 most", x.steps(200), 200);
        illegalArgument("16 none", () -> x.steps(0));
        illegalArgument("16 below", () -> x.steps(-1));
        illegalArgument("16 too many", () -> x.steps(201));
        for (int n : EXTREMES) {
            illegalArgument("16 extreme", () -> x.steps(n));
        }
        PressureNets small = new PressureNets();
        small.zone(0, 7);
        small.leak(-1, 0, 0, 1000, 1);
        small.fan(0, -3, 10, 0);
        small.fan(0, -4, 20, 0);
        small.put(0, 100);
        small.source(0, 1);
        small.steps(1);
        due("16 more goes out than the volume", small.gone(-3), 33);
        due("16 more goes out than the volume", small.gone(-4), 66);
        due("16 the rest, and its source", small.put(0, 0), 2);
    }

    private static void stepsThatAreNotDone() {
        PressureNets x = netOf(2);
        x.source(0, 400000);
        x.source(1, 3);
        x.put(0, 999000000);
        due("16 as long as they are done", x.steps(5), 2);
        due("16 up to the bound", x.put(0, 0), 999800000);
        due("16 the other zone stands too", x.put(1, 0), 6);
        x.source(0, 200000);
        due("16 just the bound is done", x.steps(5), 1);
        due("16 just the bound", x.put(0, 0), 1000000000);
        x.source(0, 0);
        x.leak(0, -1, 0, 1, 1);
        x.fan(0, -1, 1, 0);
        x.leak(1, -2, 0, 1, 1);
        x.put(1, 999999991);
        x.source(1, 4);
        due("16 not done", x.steps(1), 0);
        due("16 nothing is gone then", x.gone(-1), 0);
        x.source(1, 0);
        x.fan(-1, 1, 10000, 0);
        due("16 no state", x.pressure(1), NONE);
        due("16 without a state none is done", x.steps(9), 0);
    }

    // Promise 17
    private static void gone() {
        PressureNets x = netOf(1);
        x.fan(0, -4, 100, 0);
        x.leak(-1, 0, 0, 1000, 1);
        for (int k = 0; k < 5; k++) {
            x.put(0, 1000000000);
            due("17 step", x.steps(1), 1);
        }
        due("17 more than an int holds", x.gone(-4), 5000000000L);
        due("17 not by the side that it comes from", x.gone(-1), 0);
        due("17 asked again", x.gone(-4), 5000000000L);
        illegalArgument("17 a zone", () -> x.gone(0));
        illegalArgument("17 no side", () -> x.gone(-5));
        for (int n : EXTREMES) {
            illegalArgument("17 extreme", () -> x.gone(n));
        }
    }
}
