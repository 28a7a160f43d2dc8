/** The edges of what is carried: stuff, sources, steps, and what is gone. */
public final class StuffEdgesTest extends Checks {
    public static void main(String[] args) {
        putTellsWhatIsHeldThen();
        putIntoOneZoneAlone();
        sourceTellsWhatItWas();
        sourceOfNothing();
        sourceAtItsMost();
        sourceUpToTheBound();
        sourceComesLast();
        goesByTheVolume();
        goesByAllThatGoesOut();
        volumeAtItsEnds();
        partsAreRoundedDown();
        nothingOfNothing();
        ofWhatWasHeldBefore();
        roundAndRound();
        backThroughALeak();
        byLeaksAndFansAlike();
        notThroughAShutLeak();
        notByAFanThatStands();
        nothingComesFromASide();
        fullZoneThatGivesAsMuch();
        fullByWhatFlowsIn();
        oneFullZoneStopsAll();
        whicheverZoneIsFull();
        notDoneOnceMayBeDoneLater();
        howManyWereDone();
        noStateNoStep();
        stateAsItIs();
        greatAmountsByGreatFlows();
        goneBySides();
        goneBeyondAnInt();
        goneFromAllZonesAtOnce();
        goneStays();
        end("StuffEdgesTest");
    }

    // A zone of this volume out of which the fan blows so much by side -1; what makes up for it
    // comes in by side -2.
    private static PressureNets blownOut(int volume, int flow) {
        PressureNets x = new PressureNets();
        x.zone(0, volume);
        x.leak(0, -2, 0, 1000, 1);
        x.fan(0, -1, flow, 0);
        x.wind(-2, 10);
        return x;
    }

    // Promise 14: "how much it holds then"
    private static void putTellsWhatIsHeldThen() {
        PressureNets x = netOf(1);
        due("14 nothing", x.put(0, 0), 0);
        due("14 one", x.put(0, 1), 1);
        due("14 all but one", x.put(0, MOST_STUFF - 2), MOST_STUFF - 1);
        due("14 all", x.put(0, 1), MOST_STUFF);
        due("14 all and nothing", x.put(0, 0), MOST_STUFF);
        illegalArgument("14 one more", () -> x.put(0, 1));
        due("14 one less", x.put(0, -1), MOST_STUFF - 1);
        due("14 down to one", x.put(0, 2 - MOST_STUFF), 1);
        due("14 down to nothing", x.put(0, -1), 0);
        illegalArgument("14 one less than nothing", () -> x.put(0, -1));
    }

    private static void putIntoOneZoneAlone() {
        PressureNets x = netOf(8);
        for (int zone = 0; zone < 8; zone++) {
            x.put(zone, MOST_STUFF - zone);
        }
        for (int zone = 0; zone < 8; zone++) {
            due("14 zone " + zone, x.put(zone, 0), MOST_STUFF - zone);
        }
    }

    // Promise 15: "what it was"
    private static void sourceTellsWhatItWas() {
        PressureNets x = netOf(2);
        due("15 first", x.source(1, 1000000), 0);
        due("15 second", x.source(1, 1), 1000000);
        due("15 third", x.source(1, 0), 1);
        due("15 fourth", x.source(1, 0), 0);
        due("15 the other", x.source(0, 0), 0);
    }

    private static void sourceOfNothing() {
        PressureNets x = netOf(1);
        x.source(0, 5);
        x.source(0, 0);
        due("16 steps", x.steps(200), 200);
        due("15 nothing comes", x.put(0, 0), 0);
    }

    private static void sourceAtItsMost() {
        PressureNets x = netOf(1);
        x.source(0, 1000000);
        due("14 a source is not held yet", x.put(0, 0), 0);
        due("16 one step", x.steps(1), 1);
        due("15 its most", x.put(0, 0), 1000000);
    }

    // "A step is not done if a zone would hold more than 10^9": 1000 steps of 10^6 just fill it
    private static void sourceUpToTheBound() {
        PressureNets x = netOf(1);
        x.source(0, 1000000);
        for (int k = 1; k <= 5; k++) {
            due("16 steps", x.steps(200), 200);
            due("14 held", x.put(0, 0), 200000000 * k);
        }
        due("16 no further", x.steps(1), 0);
        due("14 full", x.put(0, 0), MOST_STUFF);
        x.source(0, 0);
        due("16 full, without source", x.steps(200), 200);
        x.source(0, 1);
        due("16 full, the least source", x.steps(200), 0);
        x.put(0, -1);
        due("16 all but one, the least source", x.steps(200), 1);
    }

    // "then each zone gets its SOURCE": nothing of it goes in the same step
    private static void sourceComesLast() {
        PressureNets x = blownOut(1, 1);
        x.source(0, 7);
        due("16 first", x.steps(1), 1);
        due("17 not gone yet", x.gone(-1), 0);
        due("14 held", x.put(0, 0), 7);
        due("16 second", x.steps(1), 1);
        due("17 gone by now", x.gone(-1), 7);
        due("14 held again", x.put(0, 0), 7);
    }

    // "the part flow by the greater of its VOLUME and all that goes out of it together"
    private static void goesByTheVolume() {
        int[][] volumeFlowGone = {{1000, 0, 0}, {1000, 1, 100}, {1000, 999, 99900}, {1000, 1000, 100000},
            {1000, 1001, 100000}, {1000, 10000, 100000}, {1001, 1000, 99900}, {999, 1000, 100000}};
        for (int[] row : volumeFlowGone) {
            PressureNets x = blownOut(row[0], row[1]);
            x.put(0, 100000);
            due("16 step", x.steps(1), 1);
            due("17 volume " + row[0] + ", flow " + row[1], x.gone(-1), row[2]);
            due("14 volume " + row[0] + ", flow " + row[1], x.put(0, 0), 100000 - row[2]);
        }
    }

    private static void goesByAllThatGoesOut() {
        int[][] volumeGone = {{1, 300}, {999, 300}, {1000, 300}, {1001, 299}, {2000, 150}};
        for (int[] row : volumeGone) {
            PressureNets x = blownOut(row[0], 300);
            x.fan(0, -3, 700, 0);
            x.put(0, 1000);
            x.steps(1);
            due("17 by the first, volume " + row[0], x.gone(-1), row[1]);
            due("17 by the second, volume " + row[0], x.gone(-3), 700000 / Math.max(1000, row[0]));
        }
    }

    // "a VOLUME (1 .. 100000)"
    private static void volumeAtItsEnds() {
        PressureNets least = blownOut(1, 1);
        least.put(0, 1000);
        least.steps(1);
        due("2 the least volume", least.gone(-1), 1000);
        PressureNets most = blownOut(100000, 1);
        most.put(0, 100000);
        most.steps(1);
        due("2 the most volume", most.gone(-1), 1);
        most.put(0, 1 - most.put(0, 0));
        due("2 one alone", most.put(0, 0), 1);
        most.steps(200);
        due("2 one alone stays", most.put(0, 0), 1);
    }

    // "rounded down", each part by itself: what rounding leaves stays in the zone
    private static void partsAreRoundedDown() {
        int[][] heldGone = {{0, 0}, {1, 0}, {2, 0}, {3, 1}, {4, 1}, {5, 1}, {6, 2}, {8, 2}, {9, 3}};
        for (int[] row : heldGone) {
            PressureNets x = blownOut(3, 1);
            x.fan(0, -3, 1, 0);
            x.fan(0, -4, 1, 0);
            x.put(0, row[0]);
            x.steps(1);
            due("17 first part of " + row[0], x.gone(-1), row[1]);
            due("17 second part of " + row[0], x.gone(-3), row[1]);
            due("17 third part of " + row[0], x.gone(-4), row[1]);
            due("14 left of " + row[0], x.put(0, 0), row[0] - 3 * row[1]);
        }
    }

    private static void nothingOfNothing() {
        PressureNets x = blownOut(1, 10000);
        due("16 steps", x.steps(200), 200);
        due("14 holds nothing", x.put(0, 0), 0);
        due("17 nothing is gone", x.gone(-1), 0);
    }

    // "of what a zone held before the step": it comes one zone further in each step
    private static void ofWhatWasHeldBefore() {
        PressureNets x = new PressureNets();
        for (int zone = 0; zone < 8; zone++) {
            x.zone(0, 1);
        }
        for (int zone = 0; zone < 7; zone++) {
            x.leak(zone, zone + 1, 0, 1, 1);
        }
        x.leak(7, -1, 0, 1, 1);
        x.fan(-2, 0, 5, 0);
        x.put(0, 1000);
        for (int step = 1; step <= 7; step++) {
            due("16 step", x.steps(1), 1);
            for (int zone = 0; zone < 8; zone++) {
                due("14 zone " + zone + " after " + step, x.put(zone, 0), zone == step ? 1000 : 0);
            }
        }
        due("17 not yet", x.gone(-1), 0);
        x.steps(1);
        due("17 in the eighth", x.gone(-1), 1000);
    }

    // What comes back in the same step is not given twice.
    private static void roundAndRound() {
        PressureNets x = new PressureNets();
        x.zone(0, 4);
        x.zone(0, 2);
        x.fan(0, 1, 1, 0);
        x.fan(1, 0, 1, 0);
        x.put(0, 400);
        x.put(1, 200);
        x.steps(1);
        due("14 first, once", x.put(0, 0), 400);
        due("14 second, once", x.put(1, 0), 200);
        x.put(1, 100);
        x.steps(1);
        due("14 first, twice", x.put(0, 0), 450);
        due("14 second, twice", x.put(1, 0), 250);
    }

    // "(below 0: from B to A)"
    private static void backThroughALeak() {
        PressureNets x = new PressureNets();
        x.zone(0, 100);
        x.zone(0, 100);
        x.leak(1, 0, 0, 10, 1);
        x.leak(-1, 1, 0, 10, 1);
        x.fan(-2, 0, 50, 0);
        due("9 from B to A", x.told(0, 1), -50);
        x.put(0, 100);
        x.put(1, 10);
        x.steps(1);
        due("14 the one at B gives", x.put(0, 0), 50);
        due("14 the one at A gets", x.put(1, 0), 55);
        due("17 out through A", x.gone(-1), 5);
    }

    // "with each flow and each fan out of it": four ways to one place are four parts
    private static void byLeaksAndFansAlike() {
        PressureNets x = new PressureNets();
        x.zone(0, 10);
        x.leak(0, -1, 0, 1, 1);
        x.leak(-1, 0, 0, 1, 1);
        x.fan(0, -1, 1, 0);
        x.fan(0, -1, 1, 0);
        x.fan(-2, 0, 4, 0);
        due("8 pressure", x.pressure(0), 1);
        x.put(0, 19);
        x.steps(1);
        due("17 four times a tenth of 19", x.gone(-1), 4);
        due("14 left", x.put(0, 0), 15);
    }

    // "Through one that is SHUT nothing flows."
    private static void notThroughAShutLeak() {
        PressureNets x = new PressureNets();
        x.zone(0, 1);
        x.leak(0, -1, 0, 1, 1);
        x.leak(0, -2, 0, 1, 1);
        x.fan(-3, 0, 6, 0);
        x.shut(0, true);
        x.put(0, 100);
        x.steps(1);
        due("17 by the shut one", x.gone(-1), 0);
        due("17 by the open one", x.gone(-2), 100);
        x.put(0, 100);
        x.shut(0, false);
        x.steps(1);
        due("17 by the opened one", x.gone(-1), 50);
        due("17 by the other one", x.gone(-2), 150);
    }

    private static void notByAFanThatStands() {
        PressureNets x = blownOut(1, 0);
        x.put(0, 100);
        due("16 steps", x.steps(200), 200);
        due("17 by a fan without flow", x.gone(-1), 0);
        PressureNets against = blownOut(1, 10);
        against.fan(-3, 0, 1, 100);
        against.put(0, 100);
        against.steps(1);
        due("17 not back through a fan", against.gone(-3), 0);
    }

    // A side holds none: what comes in by it is clean, and no side gives of what is gone by it.
    private static void nothingComesFromASide() {
        PressureNets x = blownOut(1, 1);
        x.put(0, 100);
        x.steps(1);
        due("17 gone", x.gone(-1), 100);
        x.zone(0, 1);
        x.fan(-1, 1, 10, 0);
        x.leak(1, -1, 0, 10, 1);
        due("16 steps", x.steps(50), 50);
        due("14 nothing comes back", x.put(1, 0), 0);
        due("17 still gone", x.gone(-1), 100);
    }

    // "if a zone would hold more than 10^9" when all has gone and come, not on the way
    private static void fullZoneThatGivesAsMuch() {
        PressureNets x = new PressureNets();
        x.zone(0, 1000);
        x.zone(0, 1000);
        x.fan(0, 1, 1, 0);
        x.fan(1, 0, 1, 0);
        x.put(0, MOST_STUFF);
        x.put(1, MOST_STUFF);
        due("16 both full, both give", x.steps(200), 200);
        due("14 first", x.put(0, 0), MOST_STUFF);
        due("14 second", x.put(1, 0), MOST_STUFF);
        PressureNets out = blownOut(1000, 1);
        out.put(0, MOST_STUFF);
        out.source(0, 1000000);
        due("16 as much goes as comes", out.steps(200), 200);
        due("14 still full", out.put(0, 0), MOST_STUFF);
        out.put(0, -1000);
        due("16 999999 go, 1000000 come", out.steps(1), 1);
        due("14 one more", out.put(0, 0), MOST_STUFF - 999);
        PressureNets over = blownOut(1001, 1);
        over.put(0, MOST_STUFF);
        over.source(0, 999001);
        due("16 one more comes than goes", over.steps(1), 0);
        over.source(0, 999000);
        due("16 as much comes as goes", over.steps(1), 1);
    }

    private static void fullByWhatFlowsIn() {
        for (int more = 0; more <= 1; more++) {
            PressureNets x = new PressureNets();
            x.zone(0, 1);
            x.zone(0, 1);
            x.fan(-1, 0, 10, 0);
            x.fan(0, 1, 10, 0);
            x.leak(1, -1, 0, 10, 1);
            x.shut(0, true);
            x.fan(1, -2, 10, 0);
            x.put(0, MOST_STUFF - 500 + more);
            x.put(1, 0);
            x.source(1, 500);
            due("16 more " + more, x.steps(1), 1 - more);
            due("14 taker, more " + more, x.put(1, 0), more == 0 ? MOST_STUFF : 0);
            due("14 giver, more " + more, x.put(0, 0), more == 0 ? 0 : MOST_STUFF - 499);
        }
    }

    // A step that is not done leaves all zones, and what is gone, as they were.
    private static void oneFullZoneStopsAll() {
        PressureNets x = blownOut(1, 1);
        x.zone(0, 1);
        x.put(0, 100);
        x.source(0, 3);
        x.put(1, MOST_STUFF - 1);
        x.source(1, 1);
        due("16 one can be done", x.steps(200), 1);
        due("14 after one", x.put(0, 0), 3);
        due("17 after one", x.gone(-1), 100);
        due("16 no more", x.steps(200), 0);
        due("14 as it was", x.put(0, 0), 3);
        due("14 full", x.put(1, 0), MOST_STUFF);
        due("17 as it was", x.gone(-1), 100);
        due("15 as it was", x.source(0, 3), 3);
    }

    private static void whicheverZoneIsFull() {
        for (int full = 0; full < 8; full++) {
            PressureNets x = netOf(8);
            for (int zone = 0; zone < 8; zone++) {
                x.source(zone, 1);
            }
            x.put(full, MOST_STUFF);
            due("16 full is " + full, x.steps(1), 0);
            for (int zone = 0; zone < 8; zone++) {
                due("14 zone " + zone, x.put(zone, 0), zone == full ? MOST_STUFF : 0);
            }
        }
    }

    private static void notDoneOnceMayBeDoneLater() {
        PressureNets x = netOf(1);
        x.put(0, MOST_STUFF);
        x.source(0, 10);
        due("16 full", x.steps(3), 0);
        x.put(0, -30);
        due("16 room for three", x.steps(200), 3);
        x.put(0, -29);
        due("16 room for two", x.steps(200), 2);
        due("14 nine are left", x.put(0, 0), MOST_STUFF - 9);
    }

    // Promise 16: "n STEPS (1 .. 200), as long as they are done: how many were"
    private static void howManyWereDone() {
        for (int room : new int[] {0, 1, 2, 199, 200, 201}) {
            for (int n : new int[] {1, 2, 199, 200}) {
                PressureNets x = netOf(1);
                x.source(0, 1000);
                x.put(0, MOST_STUFF - 1000 * room);
                int done = Math.min(n, room);
                due("16 room " + room + ", asked " + n, x.steps(n), done);
                due("14 room " + room + ", asked " + n, x.put(0, 0), MOST_STUFF - 1000 * (room - done));
            }
        }
    }

    // "or there is no STATE"
    private static void noStateNoStep() {
        PressureNets x = blownOut(1, 1);
        x.fan(-3, 0, 2, 0);
        x.put(0, 100);
        x.source(0, 5);
        x.shut(0, true);
        due("8 no state", x.pressure(0), NONE);
        due("16 one", x.steps(1), 0);
        due("16 all", x.steps(200), 0);
        due("14 holds the same", x.put(0, 0), 100);
        due("17 nothing is gone", x.gone(-1), 0);
        due("14 can be put", x.put(0, 11), 111);
        x.shut(0, false);
        due("16 with a state", x.steps(1), 1);
        due("17 with a state, 1000 of 1001", x.gone(-2), 110);
        due("17 with a state, 1 of 1001", x.gone(-1), 0);
        due("14 with a state", x.put(0, 0), 6);
    }

    // "by THE STATE as it is": what has changed since the last steps counts
    private static void stateAsItIs() {
        PressureNets x = new PressureNets();
        x.zone(0, 1);
        x.leak(0, -1, 0, 10, 1);
        x.leak(0, -2, 0, 10, 1);
        x.wind(-1, 10);
        x.put(0, 100);
        x.steps(1);
        due("17 one wind", x.gone(-2), 100);
        x.wind(-1, -10);
        x.put(0, 70);
        x.steps(1);
        due("17 the other wind", x.gone(-1), 70);
        due("17 as before", x.gone(-2), 100);
    }

    // 10^9 times 2 * 10^6 is far beyond an int, and a third of it is rounded down.
    private static void greatAmountsByGreatFlows() {
        PressureNets x = new PressureNets();
        x.zone(0, 100000);
        x.leak(-1, 0, 0, 1000, 1);
        x.leak(0, -2, 0, 1000, 1);
        x.leak(0, -3, 0, 1000, 1);
        x.leak(0, -4, 0, 1000, 1);
        x.leak(-1, 0, 0, 1000, 1);
        x.leak(-1, 0, 0, 1000, 1);
        x.wind(-1, 1000);
        for (int side = -4; side <= -2; side++) {
            x.wind(side, -1000);
        }
        due("9 a great flow", x.told(1, 1), 1000000);
        x.put(0, MOST_STUFF);
        due("16 step", x.steps(1), 1);
        for (int side = -4; side <= -2; side++) {
            due("17 a third by " + side, x.gone(side), 333333333);
        }
        due("14 one is left", x.put(0, 0), 1);
    }

    // Promise 17: "How much is GONE by a side"
    private static void goneBySides() {
        for (int side = -4; side <= -1; side++) {
            PressureNets x = new PressureNets();
            x.zone(0, 1);
            x.fan(0, side, 1, 0);
            x.put(0, 50);
            x.steps(1);
            for (int other = -4; other <= -1; other++) {
                due("17 by " + other, x.gone(other), other == side ? 50 : 0);
            }
        }
    }

    private static void goneBeyondAnInt() {
        PressureNets x = blownOut(1, 1);
        for (int k = 1; k <= 12; k++) {
            x.put(0, MOST_STUFF);
            x.steps(1);
            due("17 after " + k, x.gone(-1), 1000000000L * k);
        }
    }

    private static void goneFromAllZonesAtOnce() {
        PressureNets x = new PressureNets();
        for (int zone = 0; zone < 8; zone++) {
            x.zone(0, 1);
            x.leak(zone, -4, 0, 1, 1);
            x.put(zone, MOST_STUFF);
        }
        x.leak(0, -1, 0, 1, 1);
        x.wind(-1, 10);
        for (int zone = 1; zone < 8; zone++) {
            x.leak(zone, -1, 0, 1, 1);
        }
        due("16 step", x.steps(1), 1);
        due("17 all at once", x.gone(-4), 8000000000L);
        for (int zone = 0; zone < 8; zone++) {
            due("14 zone " + zone, x.put(zone, 0), 0);
        }
    }

    private static void goneStays() {
        PressureNets x = blownOut(1, 1);
        x.put(0, 9);
        x.steps(1);
        due("17 gone", x.gone(-1), 9);
        due("17 asked again", x.gone(-1), 9);
        x.wind(-1, 1000);
        x.zone(0, 1);
        due("17 after other calls", x.gone(-1), 9);
        due("16 steps", x.steps(200), 200);
        due("17 after steps", x.gone(-1), 9);
    }
}
