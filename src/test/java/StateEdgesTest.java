/** The edges of drives, flows, fans, gains, of the state itself, and of cases. */
public final class StateEdgesTest extends Checks {
    public static void main(String[] args) {
        windIsPressure();
        airForAnySide();
        stackIsRounded();
        stackAtItsMost();
        stackAtNoHeight();
        driveOfBothSigns();
        greatestDrive();
        flowWithoutDrive();
        rootsNearSquares();
        rootsOfAreas();
        rootOfTheGreatestDrive();
        straightFlows();
        flowHasTheSignOfTheDrive();
        shutLeak();
        fanWithoutFlow();
        fanWithoutSlope();
        fanNotBelowNothing();
        fanNotAboveTwice();
        fanOverTheGreatestDifference();
        fanBetweenZones();
        gainIsOnBothEnds();
        highestPressure();
        highestPressureOfTwo();
        lowestPressure();
        leastOfSeveral();
        leastOfSeveralTogether();
        oneWithoutIsNoneForAll();
        noneComesAndGoes();
        noneByWholeNumbers();
        changesAreSeen();
        sameValueAgain();
        worstTies();
        worstBelowZero();
        worstWithoutState();
        casesFollowTheHouse();
        casesIgnoreWhatIsShut();
        laterLeaksAreOpenInCases();
        end("StateEdgesTest");
    }

    // A zone that one wide leak holds at the pressure of side -1.
    private static PressureNets heldAt(int wind) {
        PressureNets x = netOf(1);
        x.leak(0, -1, 0, 1000, 1);
        x.wind(-1, wind);
        return x;
    }

    // Promise 3: "a WIND (-1000 .. 1000; 0 at first), which is its PRESSURE"
    private static void windIsPressure() {
        for (int wind : new int[] {-1000, -1, 0, 1, 1000}) {
            for (int side = -4; side <= -1; side++) {
                PressureNets x = new PressureNets();
                due("3 what it was", x.wind(side, wind), 0);
                for (int other = -4; other <= -1; other++) {
                    due("3 pressure of " + other, x.pressure(other), other == side ? wind : 0);
                }
                due("3 what it was then", x.wind(side, 0), wind);
            }
            due("3 holds a zone", heldAt(wind).pressure(0), wind);
        }
    }

    // Promise 4: "or of the AIR (for any side)"
    private static void airForAnySide() {
        for (int told = -4; told <= -1; told++) {
            PressureNets x = heldAt(0);
            for (int side = -4; side <= -1; side++) {
                x.shut(x.leak(0, side, 100, 1, 1), true);
            }
            due("4 what it was", x.warmth(told, 1000), 0);
            for (int leak = 1; leak <= 4; leak++) {
                due("4 all sides by " + told, x.told(leak, 0), -1000);
            }
            for (int asked = -4; asked <= -1; asked++) {
                due("4 of all sides by " + told, x.warmth(asked, 1000), 1000);
            }
            due("4 not of the zone", x.warmth(0, 0), 0);
        }
    }

    // Promise 9: "HEIGHT times (the warmth of A less that of B) / 100, rounded to 0"
    private static void stackIsRounded() {
        int[][] heightWarmthDrive = {{1, 99, 0}, {1, 100, 1}, {1, 199, 1}, {1, 200, 2}, {99, 1, 0}, {100, 1, 1},
            {50, 1, 0}, {50, 2, 1}, {50, 3, 1}, {33, 3, 0}, {34, 3, 1}, {7, 999, 69}, {99, 999, 989}};
        for (int[] row : heightWarmthDrive) {
            for (int sign = -1; sign <= 1; sign += 2) {
                PressureNets x = heldAt(0);
                x.leak(0, -2, row[0], 1, 1);
                x.leak(-2, 0, row[0], 1, 1);
                x.shut(1, true);
                x.shut(2, true);
                x.warmth(0, sign * row[1]);
                due("9 out, " + row[0] + " times " + sign * row[1], x.told(1, 0), sign * row[2]);
                due("9 in, " + row[0] + " times " + sign * row[1], x.told(2, 0), -sign * row[2]);
                x.warmth(0, 0);
                x.warmth(-4, sign * row[1]);
                due("9 out, air " + row[0] + " times " + sign * row[1], x.told(1, 0), -sign * row[2]);
            }
        }
    }

    private static void stackAtItsMost() {
        for (int sign = -1; sign <= 1; sign += 2) {
            PressureNets x = heldAt(0);
            x.leak(0, -2, 100, 1, 0);
            x.shut(1, true);
            x.warmth(0, sign * 1000);
            x.warmth(-1, -sign * 1000);
            due("9 warmth at its most", x.told(1, 0), sign * 2000);
        }
    }

    private static void stackAtNoHeight() {
        PressureNets x = heldAt(0);
        x.warmth(0, 1000);
        x.warmth(-1, -1000);
        due("9 no height, no stack", x.told(0, 0), 0);
        due("8 no height, no stack", x.pressure(0), 0);
    }

    // Promise 9: "the pressure of A less that of B"
    private static void driveOfBothSigns() {
        PressureNets x = heldAt(7);
        x.leak(0, -2, 0, 1, 1);
        x.leak(-2, 0, 0, 1, 1);
        x.shut(1, true);
        x.shut(2, true);
        due("9 out", x.told(1, 0), 7);
        due("9 in", x.told(2, 0), -7);
        x.wind(-2, 7);
        due("9 out, none", x.told(1, 0), 0);
        due("9 in, none", x.told(2, 0), 0);
        x.wind(-2, 8);
        due("9 out, back", x.told(1, 0), -1);
        due("9 in, back", x.told(2, 0), 1);
    }

    // Between 5000 and -5000, with all that warmth can add: two fans press, two fans suck.
    private static void greatestDrive() {
        PressureNets x = new PressureNets();
        x.zone(1000, 1);
        x.zone(-1000, 1);
        x.leak(0, 1, 100, 1, 1);
        x.leak(1, 0, 100, 1, 1);
        x.shut(1, true);
        x.fan(-1, 0, 10000, 0);
        x.fan(-1, 0, 2000, 0);
        x.fan(1, -1, 10000, 0);
        x.fan(1, -1, 2000, 0);
        due("8 the highest", x.pressure(0), 5000);
        due("8 the lowest", x.pressure(1), -5000);
        due("9 the greatest drive", x.told(0, 0), 12000);
        due("9 its flow", x.told(0, 1), 12000);
        due("9 the least drive", x.told(1, 0), -12000);
    }

    // Promise 9: "has the sign of the DRIVE d"
    private static void flowWithoutDrive() {
        for (int kind = 0; kind <= 1; kind++) {
            PressureNets x = heldAt(0);
            x.leak(0, -2, 0, 1000, kind);
            due("9 no drive", x.told(1, 0), 0);
            due("9 no flow", x.told(1, 1), 0);
        }
    }

    // Promise 9: "the greatest whole number whose square is not above AREA times AREA times d"
    private static void rootsNearSquares() {
        for (int root = 1; root <= 31; root++) {
            int square = root * root;
            rootFlow(1, square, root);
            rootFlow(1, square + 1, root);
            if (root > 1) {
                rootFlow(1, square - 1, root - 1);
            }
        }
        rootFlow(1, 1000, 31);
    }

    private static void rootsOfAreas() {
        int[][] areaDriveFlow = {{2, 1, 2}, {2, 2, 2}, {2, 3, 3}, {3, 2, 4}, {10, 2, 14}, {100, 2, 141},
            {1000, 1, 1000}, {1000, 2, 1414}, {1000, 3, 1732}, {1000, 4, 2000}, {999, 999, 31575},
            {1000, 961, 31000}, {1000, 960, 30983}, {1000, 962, 31016}, {29, 41, 185}, {29, 42, 187}};
        for (int[] row : areaDriveFlow) {
            rootFlow(row[0], row[1], row[2]);
        }
    }

    // The leak under test is between the zone and side -2 with a drive of d; four fans make up for
    // what it takes, so that the wide leak holds the zone just where it was.
    private static void rootFlow(int area, int d, int flow) {
        for (int sign = -1; sign <= 1; sign += 2) {
            PressureNets x = heldAt(sign * d);
            x.leak(0, -2, 0, area, 0);
            x.leak(-2, 0, 0, area, 0);
            x.shut(2, true);
            for (int rest = flow; rest > 0; rest -= 10000) {
                int part = Math.min(rest, 10000);
                x.fan(sign > 0 ? -3 : 0, sign > 0 ? 0 : -3, part, 0);
            }
            String what = "9 root, area " + area + ", drive " + sign * d;
            due(what, x.told(1, 0), sign * d);
            due(what + ", flow", x.told(1, 1), sign * flow);
            x.shut(1, true);
            x.shut(2, false);
            due(what + ", turned", x.told(2, 1), -sign * flow);
        }
    }

    // 109 * 109 = 11881 is not above 12000, 110 * 110 is.
    private static void rootOfTheGreatestDrive() {
        PressureNets x = new PressureNets();
        x.zone(1000, 1);
        x.zone(-1000, 1);
        x.leak(0, 1, 100, 1, 0);
        x.leak(0, -1, 0, 1, 1);
        x.fan(-1, 0, 5109, 0);
        x.fan(1, -1, 109, 0);
        due("8 the highest", x.pressure(0), 5000);
        due("8 the lowest", x.pressure(1), -5000);
        due("9 the greatest drive", x.told(0, 0), 12000);
        due("9 its root", x.told(0, 1), 109);
    }

    // Promise 9: "for KIND 1 AREA times d"
    private static void straightFlows() {
        for (int area : new int[] {1, 2, 999, 1000}) {
            for (int wind : new int[] {-1000, -1, 1, 1000}) {
                PressureNets x = netOf(1);
                x.leak(-1, 0, 0, area, 1);
                x.leak(0, -2, 0, area, 1);
                x.wind(-1, wind);
                x.wind(-2, -wind);
                due("8 in the middle", x.pressure(0), 0);
                due("9 in", x.told(0, 1), area * wind);
                due("9 out", x.told(1, 1), area * wind);
            }
        }
    }

    private static void flowHasTheSignOfTheDrive() {
        for (int kind = 0; kind <= 1; kind++) {
            PressureNets x = netOf(1);
            x.leak(-1, 0, 0, 10, kind);
            x.leak(0, -2, 0, 10, kind);
            x.wind(-1, 4);
            x.wind(-2, -4);
            int flow = kind == 0 ? 20 : 40;
            due("9 in", x.told(0, 1), flow);
            due("9 out", x.told(1, 1), flow);
            x.wind(-1, -4);
            x.wind(-2, 4);
            due("9 in, back", x.told(0, 1), -flow);
            due("9 out, back", x.told(1, 1), -flow);
        }
    }

    // "Through one that is SHUT nothing flows."
    private static void shutLeak() {
        PressureNets x = netOf(1);
        x.leak(0, -1, 0, 3, 1);
        x.wind(-1, 100);
        due("8 open", x.pressure(0), 100);
        due("6 was", x.shut(0, true), false);
        due("8 shut", x.pressure(0), -5000);
        due("9 its drive", x.told(0, 0), -5100);
        due("9 its flow", x.told(0, 1), 0);
        due("11 gains nothing by it", x.gain(0), 0);
        due("6 was, again", x.shut(0, true), true);
        due("8 still shut", x.pressure(0), -5000);
        due("6 was, still", x.shut(0, false), true);
        due("8 open again", x.pressure(0), 100);
        due("6 was open", x.shut(0, false), false);
        due("8 still open", x.pressure(0), 100);
    }

    // Promise 10: "not more than 2 F" where F is 0
    private static void fanWithoutFlow() {
        PressureNets x = heldAt(500);
        x.fan(0, -2, 0, 100);
        x.fan(-2, 0, 0, 100);
        due("10 with the pressure", x.blows(0), 0);
        due("10 against it", x.blows(1), 0);
        due("8 moves nothing", x.pressure(0), 500);
    }

    private static void fanWithoutSlope() {
        for (int wind : new int[] {-1000, 0, 1000}) {
            PressureNets x = heldAt(wind);
            x.fan(0, -2, 10000, 0);
            x.fan(-2, 0, 10000, 0);
            due("10 out at " + wind, x.blows(0), 10000);
            due("10 in at " + wind, x.blows(1), 10000);
        }
    }

    // Promise 10: "but not less than 0"
    private static void fanNotBelowNothing() {
        int[][] windBlown = {{-9, 1}, {-10, 0}, {-11, 0}, {-1000, 0}};
        for (int[] row : windBlown) {
            PressureNets x = heldAt(row[0]);
            x.fan(0, -2, 10, 1);
            due("10 against " + row[0], x.blows(0), row[1]);
        }
        PressureNets steep = heldAt(-1);
        steep.fan(0, -2, 100, 100);
        due("10 steep, at 1", steep.blows(0), 0);
        steep.fan(0, -2, 101, 100);
        due("10 steep, just above", steep.blows(1), 1);
        steep.fan(0, -2, 99, 100);
        due("10 steep, just below", steep.blows(2), 0);
    }

    // Promise 10: "and not more than 2 F"
    private static void fanNotAboveTwice() {
        int[][] windBlown = {{0, 10}, {1, 11}, {9, 19}, {10, 20}, {11, 20}, {1000, 20}};
        for (int[] row : windBlown) {
            PressureNets x = heldAt(row[0]);
            x.fan(0, -2, 10, 1);
            due("10 with " + row[0], x.blows(0), row[1]);
        }
        PressureNets most = heldAt(1000);
        most.fan(0, -2, 10000, 100);
        due("10 the most", most.blows(0), 20000);
    }

    // Two closed zones at both ends: one fan runs free from 5000 to -5000, one stands against it.
    private static void fanOverTheGreatestDifference() {
        PressureNets x = netOf(2);
        x.leak(0, -1, 0, 1, 1);
        x.fan(-1, 0, 5002, 0);
        x.fan(0, 1, 1, 100);
        x.fan(1, 0, 10000, 100);
        x.fan(1, -1, 2, 0);
        due("8 the highest", x.pressure(0), 5000);
        due("8 the lowest", x.pressure(1), -5000);
        due("10 free", x.blows(1), 2);
        due("10 against", x.blows(2), 0);
    }

    // Promise 10: "F - S * (pressure of B less that of A)": it rises until the fan stands
    private static void fanBetweenZones() {
        PressureNets x = netOf(2);
        x.leak(0, -1, 0, 1000, 1);
        x.fan(0, 1, 100, 3);
        due("8 the least at which it stands", x.pressure(1), 34);
        due("10 stands", x.blows(0), 0);
        due("11 gains nothing", x.gain(1), 0);
        x.leak(1, -2, 0, 1, 1);
        due("8 with a leak", x.pressure(1), 25);
        due("10 with a leak", x.blows(0), 25);
    }

    // "what flows and is blown into it less what flows and is blown out of it"
    private static void gainIsOnBothEnds() {
        PressureNets x = netOf(2);
        x.leak(0, -1, 0, 10, 1);
        x.leak(-2, 0, 0, 20, 1);
        x.leak(1, -1, 0, 10, 1);
        x.wind(-1, 4);
        x.wind(-2, 5);
        x.fan(0, 1, 3, 0);
        due("8 first", x.pressure(0), 5);
        due("8 second", x.pressure(1), 5);
        due("11 first: out 10, blown 3", x.gain(0), -13);
        due("11 second: out 10, blown in 3", x.gain(1), -7);
    }

    // "a whole number from -5000 to 5000"
    private static void highestPressure() {
        for (int flow = 4999; flow <= 5001; flow++) {
            PressureNets x = netOf(1);
            x.leak(0, -1, 0, 1, 1);
            x.fan(-1, 0, flow, 0);
            boolean isOne = flow <= 5000;
            due("8 flow " + flow, x.pressure(0), isOne ? flow : NONE);
            due("9 flow " + flow, x.told(0, 1), isOne ? flow : NONE);
            due("9 drive " + flow, x.told(0, 0), isOne ? flow : NONE);
            due("10 flow " + flow, x.blows(0), isOne ? flow : NONE);
            due("11 flow " + flow, x.gain(0), isOne ? 0 : NONE);
            due("16 flow " + flow, x.steps(3), isOne ? 3 : 0);
        }
    }

    private static void highestPressureOfTwo() {
        for (int more = 0; more <= 1; more++) {
            PressureNets x = netOf(2);
            x.leak(0, -1, 0, 1, 1);
            x.leak(1, 0, 0, 1, 1);
            x.fan(-1, 0, 4000, 0);
            x.fan(-1, 1, 500, 0);
            x.fan(-2, 1, more, 0);
            due("8 first of two", x.pressure(0), more == 0 ? 4500 : NONE);
            due("8 second of two", x.pressure(1), more == 0 ? 5000 : NONE);
        }
    }

    private static void lowestPressure() {
        for (int flow = 4999; flow <= 5001; flow++) {
            PressureNets x = netOf(1);
            x.leak(0, -1, 0, 1, 1);
            x.fan(0, -1, flow, 0);
            due("8 flow " + flow, x.pressure(0), Math.max(-flow, -5000));
            due("11 flow " + flow, x.gain(0), flow <= 5000 ? 0 : -1);
        }
    }

    // "of several, that in which each zone's is the least that it has in any"
    private static void leastOfSeveral() {
        PressureNets fan = netOf(1);
        fan.fan(0, -1, 10000, 0);
        due("8 blown empty", fan.pressure(0), -5000);
        due("11 blown empty", fan.gain(0), -10000);
        PressureNets root = netOf(1);
        root.leak(-1, 0, 0, 1, 0);
        root.leak(0, -2, 0, 1, 0);
        root.wind(-1, 8);
        due("8 roots of 4 and 4", root.pressure(0), 4);
        root.wind(-1, 7);
        due("8 roots of 3 and 4, of 4 and 3", root.pressure(0), 4);
        root.wind(-1, 3);
        due("8 roots of 2 and 1", root.pressure(0), 1);
        due("11 roots of 2 and 1", root.gain(0), 0);
    }

    // Zones joined among themselves alone go down together as far as the lowest of them can.
    private static void leastOfSeveralTogether() {
        PressureNets pair = netOf(2);
        pair.leak(0, 1, 0, 1000, 0);
        due("8 a pair", pair.pressure(0), -5000);
        due("8 a pair", pair.pressure(1), -5000);
        PressureNets warm = new PressureNets();
        warm.zone(1000, 1);
        warm.zone(0, 1);
        warm.leak(0, 1, 100, 1000, 1);
        due("8 the warm one", warm.pressure(0), -5000);
        due("8 the cold one", warm.pressure(1), -4000);
        PressureNets stack = new PressureNets();
        for (int z = 0; z < 8; z++) {
            stack.zone(z % 2 == 0 ? 1000 : -1000, 1);
        }
        for (int z = 0; z < 7; z++) {
            stack.leak(z, z + 1, z % 2 == 0 ? 100 : 0, 1, 1);
        }
        for (int z = 0; z < 8; z++) {
            due("8 stack " + z, stack.pressure(z), -5000 + 2000 * ((z + 1) / 2));
        }
    }

    // Promise 8: "NONE for a zone if there is none"; promises 9, 10, 11: "NONE if there is none"
    private static void oneWithoutIsNoneForAll() {
        PressureNets x = netOf(3);
        x.leak(0, -1, 0, 1, 1);
        x.leak(1, -1, 0, 1, 0);
        x.leak(2, -1, 0, 1, 1);
        x.fan(-1, 0, 10, 0);
        x.fan(-1, 2, 10, 0);
        x.wind(-4, 1000);
        x.shut(2, true);
        for (int zone = 0; zone < 3; zone++) {
            due("8 of " + zone, x.pressure(zone), NONE);
            due("11 of " + zone, x.gain(zone), NONE);
            due("9 drive of " + zone, x.told(zone, 0), NONE);
            due("9 flow of " + zone, x.told(zone, 1), NONE);
        }
        due("10 of the first", x.blows(0), NONE);
        due("10 of the second", x.blows(1), NONE);
        due("8 of a side", x.pressure(-4), 1000);
        due("8 of a side", x.pressure(-1), 0);
    }

    private static void noneComesAndGoes() {
        PressureNets x = netOf(1);
        due("8 nothing blows", x.pressure(0), -5000);
        x.fan(-1, 0, 10, 0);
        due("8 blown into a closed zone", x.pressure(0), NONE);
        x.leak(0, -1, 0, 10, 1);
        due("8 with a way out", x.pressure(0), 1);
        x.shut(0, true);
        due("8 shut", x.pressure(0), NONE);
        x.fan(0, -2, 9, 0);
        due("8 sucked by less", x.pressure(0), NONE);
        x.fan(0, -2, 1, 0);
        due("8 sucked by as much", x.pressure(0), -5000);
        due("11 sucked by as much", x.gain(0), 0);
    }

    // Round and round between two zones flows what warmth drives; of an odd drive no whole number
    // is the half, and without a way out there is no state.
    private static void noneByWholeNumbers() {
        PressureNets x = new PressureNets();
        x.zone(1000, 1);
        x.zone(0, 1);
        x.leak(0, 1, 0, 1, 1);
        x.leak(0, 1, 100, 1, 1);
        due("8 even, first", x.pressure(0), -5000);
        due("8 even, second", x.pressure(1), -4500);
        x.warmth(1, -1);
        due("8 odd, first", x.pressure(0), NONE);
        due("8 odd, second", x.pressure(1), NONE);
        x.leak(0, -1, 0, 1, 1);
        due("8 odd with a way out, first", x.pressure(0), 1);
        due("8 odd with a way out, second", x.pressure(1), 502);
        x.warmth(1, 0);
        due("8 even with a way out, first", x.pressure(0), 0);
        due("8 even with a way out, second", x.pressure(1), 500);
    }

    // The state is asked before and after each call that moves it.
    private static void changesAreSeen() {
        PressureNets x = heldAt(10);
        due("8 wind", x.pressure(0), 10);
        x.wind(-1, 20);
        due("8 new wind", x.pressure(0), 20);
        x.leak(0, -2, 100, 1000, 1);
        due("8 new leak", x.pressure(0), 10);
        x.warmth(0, 40);
        due("8 new warmth", x.pressure(0), -10);
        x.warmth(-3, 80);
        due("8 new air", x.pressure(0), 30);
        x.fan(-1, 0, 4000, 0);
        due("8 new fan", x.pressure(0), 32);
        x.shut(0, true);
        due("8 shut", x.pressure(0), 44);
        x.zone(0, 1);
        due("8 new zone", x.pressure(1), -5000);
        x.leak(1, 0, 0, 1, 0);
        due("8 joined", x.pressure(1), 44);
        due("9 joined", x.told(2, 0), 0);
    }

    private static void sameValueAgain() {
        PressureNets x = heldAt(10);
        due("8 before", x.pressure(0), 10);
        due("3 the same", x.wind(-1, 10), 10);
        due("4 the same", x.warmth(0, 0), 0);
        due("6 the same", x.shut(0, false), false);
        due("8 after", x.pressure(0), 10);
    }

    // Promise 13: "the least case with the least (2), with the greatest (3)"
    private static void worstTies() {
        PressureNets x = netOf(1);
        x.leak(0, -1, 0, 1, 1);
        x.leak(0, -2, 0, 1, 1);
        x.leak(0, -3, 0, 1, 1);
        x.wind(-2, 10);
        x.wind(-3, -10);
        int[] sets = {0, 2, 4, 0, 4, 2, 4, 2};
        for (int set : sets) {
            x.caseOf(set);
        }
        due("13 least", x.worst(0, 0), -5);
        due("13 greatest", x.worst(0, 1), 5);
        due("13 least case with the least", x.worst(0, 2), 1);
        due("13 least case with the greatest", x.worst(0, 3), 2);
        PressureNets same = heldAt(3);
        for (int k = 0; k < 8; k++) {
            same.caseOf(0);
        }
        due("13 all alike, least", same.worst(0, 2), 0);
        due("13 all alike, greatest", same.worst(0, 3), 0);
    }

    // No drive is taken for a mark of its own: all below 0, all 0, all above.
    private static void worstBelowZero() {
        for (int wind : new int[] {-1000, -1, 0, 1, 1000}) {
            PressureNets x = heldAt(wind);
            x.leak(0, -2, 0, 1, 1);
            x.shut(1, true);
            x.caseOf(2);
            due("13 least at " + wind, x.worst(1, 0), wind);
            due("13 greatest at " + wind, x.worst(1, 1), wind);
            due("13 case of the least at " + wind, x.worst(1, 2), 0);
            due("13 case of the greatest at " + wind, x.worst(1, 3), 0);
            x.caseOf(3);
            due("13 least of two at " + wind, x.worst(1, 0), -5000);
            due("13 greatest of two at " + wind, x.worst(1, 1), wind);
            due("13 case of the least of two at " + wind, x.worst(1, 2), 1);
            due("13 case of the greatest of two at " + wind, x.worst(1, 3), 0);
        }
    }

    // Promise 13: "NONE ... if there is no state in one of them", whichever of them it is
    private static void worstWithoutState() {
        for (int without = 0; without < 8; without++) {
            PressureNets x = heldAt(0);
            x.fan(-1, 0, 1000, 0);
            for (int k = 0; k < without; k++) {
                x.caseOf(0);
            }
            if (without > 0) {
                due("13 before", x.worst(0, 1), 1);
            }
            for (int k = without; k < 8; k++) {
                x.caseOf(k == without ? 1 : 0);
            }
            for (int what = 0; what <= 3; what++) {
                due("13 none in " + without, x.worst(0, what), NONE);
            }
            due("8 there is a state now", x.pressure(0), 1);
            x.shut(0, true);
            due("8 there is none now", x.pressure(0), NONE);
            x.fan(0, -1, 1000, 0);
            due("13 in all of them", x.worst(0, 1), 0);
        }
    }

    private static void casesFollowTheHouse() {
        PressureNets x = heldAt(10);
        x.leak(0, -2, 100, 1000, 1);
        x.caseOf(2);
        x.caseOf(1);
        due("13 before", x.worst(0, 0), -10);
        x.wind(-1, 20);
        due("13 new wind", x.worst(0, 0), -20);
        x.warmth(0, 40);
        due("13 new warmth", x.worst(0, 0), -60);
        x.warmth(-4, 100);
        due("13 new air", x.worst(0, 1), 40);
        x.fan(-1, 0, 1000, 0);
        due("13 new fan", x.worst(0, 1), 41);
        x.zone(0, 1);
        due("13 new zone", x.worst(0, 1), 41);
        x.fan(-1, 1, 1, 0);
        due("13 no state", x.worst(0, 1), NONE);
    }

    // "A CASE is a set of leaks that are SHUT, and no others"
    private static void casesIgnoreWhatIsShut() {
        PressureNets x = heldAt(10);
        x.leak(0, -2, 0, 1000, 1);
        x.shut(0, true);
        x.caseOf(0);
        due("13 in the case both are open", x.worst(0, 0), -5);
        due("8 now one is shut", x.pressure(0), 0);
        x.shut(1, true);
        due("13 still both are open", x.worst(0, 0), -5);
        due("8 now both are shut", x.pressure(0), -5000);
        x.caseOf(3);
        x.shut(0, false);
        x.shut(1, false);
        due("13 in the other both are shut", x.worst(0, 0), -5010);
        due("8 now both are open", x.pressure(0), 5);
        due("6 cases shut nothing", x.shut(0, false), false);
    }

    private static void laterLeaksAreOpenInCases() {
        PressureNets x = heldAt(10);
        x.caseOf(1);
        due("13 shut in the case", x.worst(0, 0), -5010);
        x.leak(0, -2, 0, 1, 1);
        due("13 the later one is open", x.worst(0, 0), -10);
        due("13 of the later one", x.worst(1, 1), 0);
    }
}
