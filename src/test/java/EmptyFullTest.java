/** Nothing told yet, and as many told as there can be. */
public final class EmptyFullTest extends Checks {
    private static final int CALLS = 512;

    public static void main(String[] args) {
        sidesAtFirst();
        nothingBesideTheSides();
        stepsWithoutZones();
        stepsWithoutZonesLeaveNothing();
        caseWithoutLeaks();
        objectsAreApart();
        firstZone();
        zoneWithoutLeaks();
        leakAtFirst();
        worstWithoutCases();
        allZones();
        zonesAreThemselves();
        volumesAreTheirOwn();
        ninthZone();
        allLeaks();
        leaksAreThemselves();
        leaksAreShutByThemselves();
        leak21();
        allFans();
        fifthFan();
        allCases();
        casesAreThemselves();
        ninthCase();
        limitsAreApart();
        allAtOneZone();
        fullHouse();
        manyCalls();
        end("EmptyFullTest");
    }

    // Promise 1: "The sides alone."; "a WIND (0 at first)", "the AIR (0 at first)"
    private static void sidesAtFirst() {
        for (int side = -4; side <= -1; side++) {
            due("1 pressure of " + side, new PressureNets().pressure(side), 0);
            due("1 wind of " + side, new PressureNets().wind(side, 7), 0);
            due("1 air by " + side, new PressureNets().warmth(side, 7), 0);
            due("1 gone by " + side, new PressureNets().gone(side), 0);
        }
    }

    // Promise 1: "The sides alone."
    private static void nothingBesideTheSides() {
        PressureNets x = new PressureNets();
        illegalArgument("1 warmth of a zone", () -> x.warmth(0, 0));
        illegalArgument("1 a leak to a zone", () -> x.leak(-1, 0, 0, 1, 0));
        illegalArgument("1 a leak from a zone", () -> x.leak(0, -1, 0, 1, 0));
        illegalArgument("1 a leak between sides", () -> x.leak(-1, -2, 0, 1, 0));
        illegalArgument("1 a fan to a zone", () -> x.fan(-1, 0, 1, 0));
        illegalArgument("1 a fan between sides", () -> x.fan(-1, -2, 1, 0));
        illegalArgument("1 shut", () -> bit(x.shut(0, true)));
        illegalArgument("1 pressure", () -> x.pressure(0));
        illegalArgument("1 told", () -> x.told(0, 0));
        illegalArgument("1 blows", () -> x.blows(0));
        illegalArgument("1 gain", () -> x.gain(0));
        illegalArgument("1 a case with a leak", () -> x.caseOf(1));
        illegalArgument("1 worst", () -> x.worst(0, 0));
        illegalArgument("1 put", () -> x.put(0, 0));
        illegalArgument("1 source", () -> x.source(0, 0));
    }

    // Promise 16: without zones there is a state (no zone gains), so all steps are done
    private static void stepsWithoutZones() {
        due("16 one step", new PressureNets().steps(1), 1);
        due("16 all steps", new PressureNets().steps(200), 200);
    }

    private static void stepsWithoutZonesLeaveNothing() {
        PressureNets x = new PressureNets();
        x.wind(-1, 1000);
        x.steps(200);
        for (int side = -4; side <= -1; side++) {
            due("17 gone by " + side, x.gone(side), 0);
        }
    }

    // Promise 12: the empty set has a bit for no leak that is not there
    private static void caseWithoutLeaks() {
        PressureNets x = new PressureNets();
        for (int k = 0; k < 8; k++) {
            due("12 empty case", x.caseOf(0), k);
        }
        illegalState("12 ninth empty case", () -> x.caseOf(0));
    }

    private static void objectsAreApart() {
        PressureNets told = netOf(1);
        told.leak(0, -1, 0, 1, 1);
        told.fan(-1, 0, 9, 0);
        told.caseOf(0);
        told.wind(-1, 9);
        told.warmth(-1, 9);
        told.put(0, 9);
        told.source(0, 9);
        PressureNets x = netOf(1);
        due("1 wind", x.pressure(-1), 0);
        due("1 air", x.warmth(-1, 0), 0);
        due("1 stuff", x.put(0, 0), 0);
        due("1 source", x.source(0, 0), 0);
        due("1 pressure", x.pressure(0), -5000);
        due("1 first leak", x.leak(0, -1, 0, 1, 1), 0);
        due("1 first fan", x.fan(-1, 0, 9, 0), 0);
        due("1 first case", x.caseOf(0), 0);
    }

    // "each zone holds some (0 at first), and has a SOURCE (0 at first)"
    private static void firstZone() {
        PressureNets x = new PressureNets();
        due("2 its number", x.zone(-7, 3), 0);
        due("2 its warmth", x.warmth(0, 1), -7);
        due("14 holds at first", x.put(0, 0), 0);
        due("15 source at first", x.source(0, 0), 0);
        illegalArgument("2 no second", () -> x.pressure(1));
    }

    // "of several, that in which each zone's is the least that it has in any"
    private static void zoneWithoutLeaks() {
        PressureNets x = netOf(1);
        due("8 the least of all", x.pressure(0), -5000);
        due("11 gains nothing", x.gain(0), 0);
        x.put(0, 5);
        due("16 its steps", x.steps(200), 200);
        due("16 keeps its stuff", x.put(0, 0), 5);
    }

    // Promise 6: a leak is not SHUT at first
    private static void leakAtFirst() {
        PressureNets x = netOf(1);
        for (int k = 0; k < 20; k++) {
            x.leak(0, -1, 0, 1, 1);
            due("6 leak " + k + " at first", x.shut(k, false), false);
        }
        due("9 flows at first", x.pressure(0), 0);
    }

    // Promise 13: "NONE without cases"
    private static void worstWithoutCases() {
        PressureNets x = netOf(1);
        x.leak(0, -1, 0, 1, 1);
        for (int what = 0; what <= 3; what++) {
            due("13 what " + what, x.worst(0, what), NONE);
        }
        x.caseOf(0);
        due("13 with the first", x.worst(0, 0), 0);
    }

    // Promise 2: "ZONES are 0 .. 7, as they come"
    private static void allZones() {
        PressureNets x = new PressureNets();
        for (int k = 0; k < 8; k++) {
            int next = k;
            illegalArgument("2 not yet", () -> x.pressure(next));
            due("2 number", x.zone(0, 1), k);
            due("2 is there", x.pressure(k), -5000);
        }
    }

    private static void zonesAreThemselves() {
        PressureNets x = new PressureNets();
        for (int k = 0; k < 8; k++) {
            x.zone(100 * k, 1);
            x.put(k, 1000 + k);
            x.source(k, 10 + k);
        }
        for (int k = 0; k < 8; k++) {
            due("2 pressure of " + k, x.leak(k, -1, 100, 10, 1), k);
        }
        for (int k = 0; k < 8; k++) {
            due("2 warm air in " + k, x.pressure(k), -100 * k);
            due("14 held in " + k, x.put(k, 0), 1000 + k);
            due("15 source of " + k, x.source(k, 0), 10 + k);
            due("4 warmth of " + k, x.warmth(k, 0), 100 * k);
        }
    }

    // The fan takes a tenth out of the one great volume; it would take all out of another.
    private static void volumesAreTheirOwn() {
        for (int zone = 0; zone < 8; zone++) {
            PressureNets x = new PressureNets();
            for (int k = 0; k < 8; k++) {
                x.zone(0, k == zone ? 100000 : 1);
            }
            x.leak(zone, -2, 0, 1000, 1);
            x.fan(zone, -1, 10000, 0);
            x.wind(-2, 10);
            x.put(zone, 1000);
            x.steps(1);
            due("2 volume of " + zone, x.gone(-1), 100);
        }
    }

    // Promise 2: "illegal state: there are 8"
    private static void ninthZone() {
        PressureNets x = netOf(8);
        illegalState("2 ninth", () -> x.zone(0, 1));
        illegalState("2 ninth again", () -> x.zone(-1000, 100000));
        illegalArgument("2 is not there", () -> x.pressure(8));
        due("2 the eighth is", x.pressure(7), -5000);
    }

    // Promise 5: "LEAKS are 0 .. 19, as they come"
    private static void allLeaks() {
        PressureNets x = netOf(1);
        for (int k = 0; k < 20; k++) {
            int next = k;
            illegalArgument("5 not yet", () -> x.told(next, 0));
            due("5 number", x.leak(0, -1, 0, 1, 1), k);
            due("5 is there", x.told(k, 0), 0);
        }
    }

    // The first leak holds the zone at 0, all others are shut, so that each drive is its own.
    private static void leaksAreThemselves() {
        PressureNets x = netOf(1);
        x.warmth(-1, -100);
        for (int side = -4; side <= -1; side++) {
            x.wind(side, 100 * side + 100);
        }
        x.leak(0, -1, 0, 1000, 1);
        for (int k = 1; k < 20; k++) {
            int side = -1 - k % 4;
            x.leak(k % 2 == 0 ? 0 : side, k % 2 == 0 ? side : 0, 2 * k, k, k % 2);
            x.shut(k, true);
        }
        for (int k = 1; k < 20; k++) {
            int out = 100 * (k % 4) + 2 * k;
            due("5 drive of " + k, x.told(k, 0), k % 2 == 0 ? out : -out);
            due("5 flow of " + k, x.told(k, 1), 0);
        }
    }

    private static void leaksAreShutByThemselves() {
        PressureNets x = netOf(1);
        for (int k = 0; k < 20; k++) {
            x.leak(0, -1, 0, 1, 1);
        }
        for (int k = 0; k < 20; k++) {
            due("6 was open " + k, x.shut(k, true), false);
            for (int other = k + 1; other < 20; other++) {
                due("6 others stay open", x.shut(other, false), false);
            }
            due("6 was shut " + k, x.shut(k, true), true);
        }
        due("6 all are shut", x.pressure(0), -5000);
        due("6 the last opens", x.shut(19, false), true);
        due("6 the last opens", x.pressure(0), 0);
    }

    // Promise 5: "illegal state: there are 20"
    private static void leak21() {
        PressureNets x = netOf(2);
        for (int k = 0; k < 20; k++) {
            x.leak(0, 1, 0, 1, 1);
        }
        illegalState("5 the 21st", () -> x.leak(0, 1, 0, 1, 0));
        illegalState("5 the 21st again", () -> x.leak(-4, 1, 100, 1000, 1));
        illegalArgument("5 is not there", () -> x.told(20, 0));
        due("5 the 20th is", x.told(19, 0), 0);
    }

    // Promise 7: "FANS are 0 .. 3, as they come"
    private static void allFans() {
        PressureNets x = netOf(1);
        x.leak(0, -1, 0, 1000, 1);
        for (int k = 0; k < 4; k++) {
            int next = k;
            illegalArgument("7 not yet", () -> x.blows(next));
            due("7 number", x.fan(0, -2, 100 + k, 0), k);
            due("10 is there", x.blows(k), 100 + k);
        }
        for (int k = 0; k < 4; k++) {
            due("10 blows its own", x.blows(k), 100 + k);
        }
    }

    // Promise 7: "illegal state: there are 4"
    private static void fifthFan() {
        PressureNets x = netOf(2);
        for (int k = 0; k < 4; k++) {
            x.fan(0, 1, k, 0);
        }
        illegalState("7 fifth", () -> x.fan(0, 1, 0, 0));
        illegalState("7 fifth again", () -> x.fan(-4, 1, 10000, 100));
        illegalArgument("7 is not there", () -> x.blows(4));
    }

    // Promise 12: "up to 8 are told"
    private static void allCases() {
        PressureNets x = netOf(1);
        for (int k = 0; k < 20; k++) {
            x.leak(0, -1, 0, 1, 1);
        }
        for (int k = 0; k < 8; k++) {
            due("12 number", x.caseOf(1 << k), k);
        }
    }

    // In case k leak k alone is open and sets the pressure; the last leak only measures it.
    private static void casesAreThemselves() {
        for (int most = 0; most < 8; most++) {
            PressureNets x = new PressureNets();
            x.zone(100, 1);
            for (int k = 0; k < 8; k++) {
                x.leak(0, -1, k == most ? 90 : 10, 1, 1);
            }
            x.leak(0, -2, 0, 1, 1);
            for (int k = 0; k < 8; k++) {
                x.caseOf(0x1ff & ~(1 << k));
            }
            due("13 least", x.worst(8, 0), -90);
            due("13 greatest", x.worst(8, 1), -10);
            due("13 case of the least", x.worst(8, 2), most);
            due("13 case of the greatest", x.worst(8, 3), most == 0 ? 1 : 0);
        }
    }

    // Promise 12: "illegal state: there are 8"
    private static void ninthCase() {
        PressureNets x = netOf(1);
        x.leak(0, -1, 0, 1, 1);
        x.fan(-1, 0, 5, 0);
        for (int k = 0; k < 8; k++) {
            x.caseOf(0);
        }
        illegalState("12 ninth", () -> x.caseOf(0));
        illegalState("12 ninth again", () -> x.caseOf(1));
        due("13 the ninth, without state, is not there", x.worst(0, 0), 5);
    }

    // Each limit is one of its own: what is full elsewhere does not refuse.
    private static void limitsAreApart() {
        PressureNets zones = netOf(8);
        due("5 with all zones", zones.leak(0, -1, 0, 1, 0), 0);
        due("7 with all zones", zones.fan(0, -1, 0, 1), 0);
        due("12 with all zones", zones.caseOf(1), 0);
        PressureNets leaks = netOf(1);
        for (int k = 0; k < 20; k++) {
            leaks.leak(0, -1, 0, 1, 0);
        }
        due("2 with all leaks", leaks.zone(0, 1), 1);
        due("7 with all leaks", leaks.fan(0, -1, 0, 1), 0);
        due("12 with all leaks", leaks.caseOf(1 << 19), 0);
        PressureNets fans = netOf(1);
        for (int k = 0; k < 4; k++) {
            fans.fan(0, -1, 0, 1);
            fans.caseOf(0);
            fans.caseOf(0);
        }
        due("2 with all fans and cases", fans.zone(0, 1), 1);
        due("5 with all fans and cases", fans.leak(0, 1, 0, 1, 0), 0);
    }

    // All twenty leaks and four fans at one zone: 20 * 10 flows in, 4 * 50 are blown out.
    private static void allAtOneZone() {
        PressureNets x = netOf(1);
        for (int k = 0; k < 20; k++) {
            x.leak(k % 2 == 0 ? 0 : -1, k % 2 == 0 ? -1 : 0, 0, 10, 1);
        }
        for (int k = 0; k < 4; k++) {
            x.fan(0, -2 - k % 3, 50, 0);
        }
        due("8 all at one zone", x.pressure(0), -1);
        due("11 all at one zone", x.gain(0), 0);
        due("9 the first", x.told(0, 1), -10);
        due("9 the last", x.told(19, 1), 10);
        x.put(0, 1000);
        x.steps(1);
        due("17 by two fans", x.gone(-2), 500);
        due("17 by one fan", x.gone(-3), 250);
        due("14 nothing is left", x.put(0, 0), 0);
    }

    // As many of all as there can be, held against the slow model.
    private static void fullHouse() {
        PressureNets x = new PressureNets();
        SlowNets slow = new SlowNets();
        for (int k = 0; k < 8; k++) {
            due("2", x.zone(125 * k, 500 + k), slow.zone(125 * k, 500 + k));
            due("14", x.put(k, 1000000 * k), slow.put(k, 1000000 * k));
            due("15", x.source(k, 1000 + k), slow.source(k, 1000 + k));
        }
        for (int k = 0; k < 20; k++) {
            int a = k % 8;
            int b = k < 8 ? -1 - k % 4 : (k * 3 + 1) % 8;
            due("5", x.leak(a, b, 5 * k, 1 + 3 * k, k % 2), slow.leak(a, b, 5 * k, 1 + 3 * k, k % 2));
        }
        for (int k = 0; k < 4; k++) {
            due("7", x.fan(-1 - k, 2 * k, 1000 * k, k), slow.fan(-1 - k, 2 * k, 1000 * k, k));
            due("3", x.wind(-1 - k, 30 * k), slow.wind(-1 - k, 30 * k));
        }
        for (int k = 0; k < 8; k++) {
            due("12", x.caseOf(k << 12), slow.caseOf(k << 12));
        }
        sameAnswers(x, slow);
        due("16", x.steps(200), slow.steps(200));
        sameAnswers(x, slow);
    }

    private static void sameAnswers(PressureNets x, SlowNets slow) {
        for (int place = -4; place < 8; place++) {
            due("8 full, " + place, x.pressure(place), slow.pressure(place));
        }
        for (int zone = 0; zone < 8; zone++) {
            due("11 full, " + zone, x.gain(zone), slow.gain(zone));
            due("14 full, " + zone, x.put(zone, 0), slow.put(zone, 0));
        }
        for (int leak = 0; leak < 20; leak++) {
            due("9 full, drive " + leak, x.told(leak, 0), slow.told(leak, 0));
            due("9 full, flow " + leak, x.told(leak, 1), slow.told(leak, 1));
        }
        for (int what = 0; what <= 3; what++) {
            due("13 full, first", x.worst(0, what), slow.worst(0, what));
            due("13 full, last", x.worst(19, what), slow.worst(19, what));
        }
        for (int k = 0; k < 4; k++) {
            due("10 full, " + k, x.blows(k), slow.blows(k));
            due("17 full, " + k, x.gone(-1 - k), slow.gone(-1 - k));
        }
    }

    // "An object is used for at most 512 calls after it has been made"
    private static void manyCalls() {
        PressureNets x = new PressureNets();
        x.zone(0, 1);
        x.leak(0, -1, 0, 1000, 1);
        x.fan(0, -2, 1, 0);
        x.source(0, 1000000);
        for (int call = 5; call < CALLS; call++) {
            due("16 call " + call, x.steps(200), 200);
        }
        due("17 the last call", x.gone(-2), 1000000L * (200 * (CALLS - 5) - 1));
    }
}
