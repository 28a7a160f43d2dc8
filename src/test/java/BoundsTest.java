import java.util.function.Supplier;

/**
 * Every number that a call takes: the last value that is allowed and the first that is not, on
 * either side; the same where nothing has been told, where all is full, and without a state.
 */
public final class BoundsTest extends Checks {
    /** A call whose numbers are all right but for the one that is looked at. */
    private interface Call {
        long with(PressureNets x, int number);
    }

    public static void main(String[] args) {
        zone();
        wind();
        warmth();
        leakPlaces();
        leakNumbers();
        shut();
        fanPlaces();
        fanNumbers();
        pressure();
        told();
        blows();
        gain();
        caseOf();
        caseOfBits();
        worst();
        putZone();
        putAmount();
        putSum();
        source();
        steps();
        gone();
        wrongWhereAllIsFull();
        end("BoundsTest");
    }

    private static void bounds(String sentence, Supplier<PressureNets> house, int least, int greatest, Call call) {
        for (int n : new int[] {least, greatest}) {
            PressureNets x = house.get();
            allowed(sentence + ", " + n, () -> call.with(x, n));
        }
        refusedOutside(sentence, house, least, greatest, call);
    }

    private static void refusedOutside(String sentence, Supplier<PressureNets> house, int least, int greatest,
            Call call) {
        refused(sentence, house, call, least - 1, greatest + 1, Integer.MIN_VALUE, Integer.MAX_VALUE);
    }

    private static void refused(String sentence, Supplier<PressureNets> house, Call call, int... numbers) {
        for (int n : numbers) {
            PressureNets x = house.get();
            illegalArgument(sentence + ", " + n, () -> call.with(x, n));
        }
    }

    private static void boundsWhenFull(String sentence, int least, int greatest, Call call) {
        for (int n : new int[] {least, greatest}) {
            PressureNets x = fullHouse();
            illegalState(sentence + ", full, " + n, () -> call.with(x, n));
        }
        refusedOutside(sentence + ", full", BoundsTest::fullHouse, least, greatest, call);
    }

    private static PressureNets house(int zones, int leaks, int fans) {
        PressureNets x = netOf(zones);
        for (int k = 0; k < leaks; k++) {
            x.leak(0, -1, 0, 5, 1);
        }
        for (int k = 0; k < fans; k++) {
            x.fan(0, -1, 5, 1);
        }
        return x;
    }

    private static PressureNets fullHouse() {
        PressureNets x = house(8, 20, 4);
        for (int k = 0; k < 8; k++) {
            x.caseOf(k);
        }
        return x;
    }

    private static PressureNets withoutState() {
        PressureNets x = house(3, 2, 1);
        x.fan(-1, 2, 1, 0);
        x.caseOf(0);
        due("a house without state", x.pressure(0), NONE);
        return x;
    }

    // Promise 2: "a WARMTH (-1000 .. 1000) and a VOLUME (1 .. 100000)"
    private static void zone() {
        bounds("2 warmth", PressureNets::new, -1000, 1000, (x, n) -> x.zone(n, 1));
        bounds("2 volume", PressureNets::new, 1, 100000, (x, n) -> x.zone(0, n));
        bounds("2 warmth of the eighth", () -> netOf(7), -1000, 1000, (x, n) -> x.zone(n, 100000));
        bounds("2 volume of the eighth", () -> netOf(7), 1, 100000, (x, n) -> x.zone(-1000, n));
        boundsWhenFull("2 warmth", -1000, 1000, (x, n) -> x.zone(n, 1));
        boundsWhenFull("2 volume", 1, 100000, (x, n) -> x.zone(0, n));
    }

    // Promise 3: "SIDES are -4 .. -1, each with a WIND (-1000 .. 1000)"
    private static void wind() {
        bounds("3 side", PressureNets::new, -4, -1, (x, n) -> x.wind(n, 5));
        bounds("3 side, with zones", () -> netOf(8), -4, -1, (x, n) -> x.wind(n, 5));
        for (int side = -4; side <= -1; side++) {
            int s = side;
            bounds("3 wind of " + s, PressureNets::new, -1000, 1000, (x, n) -> x.wind(s, n));
        }
    }

    // Promise 4: "A PLACE is a side or a zone"; "WARMTH of the AIR (-1000 .. 1000)"
    private static void warmth() {
        for (int zones : new int[] {0, 1, 7, 8}) {
            bounds("4 place of " + zones, () -> netOf(zones), -4, zones - 1, (x, n) -> x.warmth(n, 5));
        }
        for (int place : new int[] {-4, -3, -2, -1, 0, 7}) {
            bounds("4 warmth of " + place, () -> netOf(8), -1000, 1000, (x, n) -> x.warmth(place, n));
        }
    }

    // Promise 5: "from a place A to another one B, not both sides"
    private static void leakPlaces() {
        for (int zones : new int[] {3, 7, 8}) {
            bounds("5 a of " + zones, () -> netOf(zones), -4, zones - 1, (x, n) -> x.leak(n, 1, 0, 1, 0));
            bounds("5 b of " + zones, () -> netOf(zones), -4, zones - 1, (x, n) -> x.leak(1, n, 0, 1, 0));
        }
        for (int zones = 0; zones <= 3; zones++) {
            for (int a = -6; a <= 4; a++) {
                for (int b = -6; b <= 4; b++) {
                    PressureNets x = netOf(zones);
                    int from = a;
                    int to = b;
                    String got = answer(() -> x.leak(from, to, 0, 1, 0));
                    due("5 leak from " + a + " to " + b + " of " + zones, got, joined(a, b, zones));
                }
            }
        }
    }

    private static String joined(int a, int b, int zones) {
        boolean areThere = a >= -4 && a < zones && b >= -4 && b < zones;
        boolean isZoneAmong = a >= 0 || b >= 0;
        return areThere && isZoneAmong && a != b ? "0" : ARGUMENT;
    }

    // Promise 5: "a HEIGHT (0 .. 100), an AREA (1 .. 1000) and a KIND"; "the kind is not 0 or 1"
    private static void leakNumbers() {
        bounds("5 height", () -> netOf(1), 0, 100, (x, n) -> x.leak(0, -1, n, 1, 0));
        bounds("5 area, kind 0", () -> netOf(1), 1, 1000, (x, n) -> x.leak(0, -1, 0, n, 0));
        bounds("5 area, kind 1", () -> netOf(1), 1, 1000, (x, n) -> x.leak(0, -1, 0, n, 1));
        bounds("5 kind", () -> netOf(1), 0, 1, (x, n) -> x.leak(-1, 0, 0, 1, n));
        bounds("5 height of the 20th", () -> house(1, 19, 0), 0, 100, (x, n) -> x.leak(0, -1, n, 1000, 1));
        boundsWhenFull("5 a", -4, 7, (x, n) -> x.leak(n, 1, 0, 1, 0));
        boundsWhenFull("5 b", -4, 7, (x, n) -> x.leak(1, n, 0, 1, 0));
        boundsWhenFull("5 height", 0, 100, (x, n) -> x.leak(0, -1, n, 1, 0));
        boundsWhenFull("5 area", 1, 1000, (x, n) -> x.leak(0, -1, 0, n, 0));
        boundsWhenFull("5 kind", 0, 1, (x, n) -> x.leak(0, -1, 0, 1, n));
    }

    // Promise 6: "there is no such leak"
    private static void shut() {
        refused("6 no leak", () -> netOf(8), (x, n) -> bit(x.shut(n, true)), -1, 0, 1);
        for (int leaks : new int[] {1, 19, 20}) {
            bounds("6 shut of " + leaks, () -> house(8, leaks, 4), 0, leaks - 1, (x, n) -> bit(x.shut(n, true)));
            bounds("6 open of " + leaks, () -> house(1, leaks, 4), 0, leaks - 1, (x, n) -> bit(x.shut(n, false)));
        }
        bounds("6 without state", BoundsTest::withoutState, 0, 1, (x, n) -> bit(x.shut(n, true)));
    }

    // Promise 7: "from a place A to another one B, not both sides"
    private static void fanPlaces() {
        for (int zones : new int[] {3, 7, 8}) {
            bounds("7 a of " + zones, () -> netOf(zones), -4, zones - 1, (x, n) -> x.fan(n, 1, 1, 0));
            bounds("7 b of " + zones, () -> netOf(zones), -4, zones - 1, (x, n) -> x.fan(1, n, 1, 0));
        }
        for (int zones = 0; zones <= 3; zones++) {
            for (int a = -6; a <= 4; a++) {
                for (int b = -6; b <= 4; b++) {
                    PressureNets x = netOf(zones);
                    int from = a;
                    int to = b;
                    String got = answer(() -> x.fan(from, to, 1, 0));
                    due("7 fan from " + a + " to " + b + " of " + zones, got, joined(a, b, zones));
                }
            }
        }
    }

    // Promise 7: "a FLOW F (0 .. 10000) and a SLOPE S (0 .. 100)"
    private static void fanNumbers() {
        bounds("7 flow", () -> netOf(1), 0, 10000, (x, n) -> x.fan(0, -1, n, 0));
        bounds("7 slope", () -> netOf(1), 0, 100, (x, n) -> x.fan(-1, 0, 0, n));
        bounds("7 flow of the fourth", () -> house(2, 0, 3), 0, 10000, (x, n) -> x.fan(1, 0, n, 100));
        boundsWhenFull("7 a", -4, 7, (x, n) -> x.fan(n, 1, 1, 0));
        boundsWhenFull("7 b", -4, 7, (x, n) -> x.fan(1, n, 1, 0));
        boundsWhenFull("7 flow", 0, 10000, (x, n) -> x.fan(0, -1, n, 0));
        boundsWhenFull("7 slope", 0, 100, (x, n) -> x.fan(0, -1, 1, n));
    }

    // Promise 8: "there is no such zone, place"
    private static void pressure() {
        for (int zones : new int[] {0, 1, 7, 8}) {
            bounds("8 place of " + zones, () -> netOf(zones), -4, zones - 1, (x, n) -> x.pressure(n));
        }
        bounds("8 without state", BoundsTest::withoutState, -4, 2, (x, n) -> x.pressure(n));
    }

    // Promise 9: "its DRIVE (what = 0), its FLOW (1)"
    private static void told() {
        for (int what = 0; what <= 1; what++) {
            int w = what;
            refused("9 no leak", () -> netOf(8), (x, n) -> x.told(n, w), -1, 0, 1);
            for (int leaks : new int[] {1, 19, 20}) {
                bounds("9 leak of " + leaks, () -> house(8, leaks, 4), 0, leaks - 1, (x, n) -> x.told(n, w));
            }
            bounds("9 leak without state", BoundsTest::withoutState, 0, 1, (x, n) -> x.told(n, w));
        }
        bounds("9 what", () -> house(1, 1, 0), 0, 1, (x, n) -> x.told(0, n));
        bounds("9 what of the 20th", () -> house(1, 20, 0), 0, 1, (x, n) -> x.told(19, n));
        bounds("9 what without state", BoundsTest::withoutState, 0, 1, (x, n) -> x.told(1, n));
    }

    // Promise 10: "there is no such fan"
    private static void blows() {
        refused("10 no fan", () -> house(8, 20, 0), (x, n) -> x.blows(n), -1, 0, 1);
        for (int fans : new int[] {1, 3, 4}) {
            bounds("10 fan of " + fans, () -> house(8, 20, fans), 0, fans - 1, (x, n) -> x.blows(n));
        }
        bounds("10 without state", BoundsTest::withoutState, 0, 1, (x, n) -> x.blows(n));
    }

    // Promise 11: "there is no such zone"
    private static void gain() {
        refused("11 no zone", PressureNets::new, (x, n) -> x.gain(n), -4, -1, 0, 1);
        for (int zones : new int[] {1, 7, 8}) {
            bounds("11 zone of " + zones, () -> house(zones, 20, 4), 0, zones - 1, (x, n) -> x.gain(n));
        }
        bounds("11 without state", BoundsTest::withoutState, 0, 2, (x, n) -> x.gain(n));
    }

    // Promise 12: "it has a bit for no leak"
    private static void caseOf() {
        for (int leaks : new int[] {0, 1, 2, 19, 20}) {
            int all = (1 << leaks) - 1;
            bounds("12 set of " + leaks, () -> house(8, leaks, 4), 0, all, (x, n) -> x.caseOf(n));
        }
        bounds("12 without state", BoundsTest::withoutState, 0, 3, (x, n) -> x.caseOf(n));
        boundsWhenFull("12 set", 0, (1 << 20) - 1, (x, n) -> x.caseOf(n));
    }

    // A shift by 32 would be one by 0: each bit of the set is looked at by itself.
    private static void caseOfBits() {
        for (int leaks : new int[] {0, 1, 10, 20}) {
            for (int bit = 0; bit < 32; bit++) {
                PressureNets x = house(1, leaks, 0);
                int set = 1 << bit;
                due("12 bit " + bit + " of " + leaks, answer(() -> x.caseOf(set)), bit < leaks ? "0" : ARGUMENT);
                due("12 all but bit " + bit, answer(() -> x.caseOf(~set)), ARGUMENT);
            }
        }
    }

    // Promise 13: "the least (what = 0), the greatest (1), the least case with the least (2), with
    // the greatest (3)"
    private static void worst() {
        for (int what = 0; what <= 3; what++) {
            int w = what;
            refused("13 no leak", () -> netOf(8), (x, n) -> x.worst(n, w), -1, 0, 1);
            for (int leaks : new int[] {1, 19, 20}) {
                bounds("13 leak of " + leaks, () -> house(8, leaks, 4), 0, leaks - 1, (x, n) -> x.worst(n, w));
            }
            bounds("13 leak without state", BoundsTest::withoutState, 0, 1, (x, n) -> x.worst(n, w));
        }
        bounds("13 what without cases", () -> house(1, 1, 0), 0, 3, (x, n) -> x.worst(0, n));
        bounds("13 what without state", BoundsTest::withoutState, 0, 3, (x, n) -> x.worst(1, n));
        bounds("13 what", BoundsTest::fullHouse, 0, 3, (x, n) -> x.worst(19, n));
        bounds("13 leak", BoundsTest::fullHouse, 0, 19, (x, n) -> x.worst(n, 3));
    }

    // Promise 14: "there is no such zone"
    private static void putZone() {
        refused("14 no zone", PressureNets::new, (x, n) -> x.put(n, 0), -4, -1, 0, 1);
        for (int zones : new int[] {1, 7, 8}) {
            bounds("14 zone of " + zones, () -> netOf(zones), 0, zones - 1, (x, n) -> x.put(n, 1));
        }
    }

    // Promise 14: "so much STUFF more (-10^9 .. 10^9)"
    private static void putAmount() {
        for (int zone : new int[] {0, 7}) {
            PressureNets x = netOf(8);
            due("14 the most", x.put(zone, MOST_STUFF), MOST_STUFF);
            illegalArgument("14 below the least", () -> x.put(zone, -MOST_STUFF - 1));
            due("14 the least", x.put(zone, -MOST_STUFF), 0);
            illegalArgument("14 above the most", () -> x.put(zone, MOST_STUFF + 1));
            for (int n : EXTREMES) {
                illegalArgument("14 extreme", () -> x.put(zone, n));
            }
            due("14 nothing changed", x.put(zone, 0), 0);
        }
    }

    // Promise 14: "also if that is below 0, or above 10^9"
    private static void putSum() {
        for (int held : new int[] {0, 1, 600000000, MOST_STUFF - 1, MOST_STUFF}) {
            PressureNets x = netOf(1);
            x.put(0, held);
            illegalArgument("14 below 0 from " + held, () -> x.put(0, -held - 1));
            illegalArgument("14 above the most from " + held, () -> x.put(0, MOST_STUFF - held + 1));
            due("14 up to the most from " + held, x.put(0, MOST_STUFF - held), MOST_STUFF);
            x.put(0, held - MOST_STUFF);
            due("14 down to 0 from " + held, x.put(0, -held), 0);
        }
        PressureNets x = netOf(1);
        x.put(0, MOST_STUFF);
        illegalArgument("14 twice the most", () -> x.put(0, MOST_STUFF));
        due("14 still the most", x.put(0, 0), MOST_STUFF);
    }

    // Promise 15: "a SOURCE (0 .. 1000000; 0 at first)"
    private static void source() {
        refused("15 no zone", PressureNets::new, (x, n) -> x.source(n, 0), -4, -1, 0, 1);
        for (int zones : new int[] {1, 7, 8}) {
            bounds("15 zone of " + zones, () -> netOf(zones), 0, zones - 1, (x, n) -> x.source(n, 1));
        }
        bounds("15 amount", () -> netOf(1), 0, 1000000, (x, n) -> x.source(0, n));
        bounds("15 amount of the eighth", () -> netOf(8), 0, 1000000, (x, n) -> x.source(7, n));
    }

    // Promise 16: "n STEPS (1 .. 200)"
    private static void steps() {
        bounds("16 n without zones", PressureNets::new, 1, 200, (x, n) -> x.steps(n));
        bounds("16 n", () -> house(2, 2, 1), 1, 200, (x, n) -> x.steps(n));
        bounds("16 n without state", BoundsTest::withoutState, 1, 200, (x, n) -> x.steps(n));
    }

    // Promise 17: "SIDES are -4 .. -1"
    private static void gone() {
        for (int zones : new int[] {0, 1, 8}) {
            bounds("17 side, zones " + zones, () -> netOf(zones), -4, -1, (x, n) -> x.gone(n));
        }
        bounds("17 side, without state", BoundsTest::withoutState, -4, -1, (x, n) -> x.gone(n));
    }

    // "Of several exceptions the one named first is thrown"
    private static void wrongWhereAllIsFull() {
        PressureNets x = fullHouse();
        illegalArgument("5 full, one place", () -> x.leak(3, 3, 0, 1, 0));
        illegalArgument("5 full, one side", () -> x.leak(-2, -2, 0, 1, 0));
        illegalArgument("5 full, both sides", () -> x.leak(-1, -4, 0, 1, 0));
        illegalArgument("7 full, one place", () -> x.fan(3, 3, 1, 0));
        illegalArgument("7 full, one side", () -> x.fan(-2, -2, 1, 0));
        illegalArgument("7 full, both sides", () -> x.fan(-4, -1, 1, 0));
        illegalArgument("12 full, a bit for no leak", () -> x.caseOf(-1));
    }
}
