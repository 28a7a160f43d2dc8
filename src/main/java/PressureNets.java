import java.util.Arrays;

/**
 * Air between rooms by pressures. What each call promises stands in the document; README.md tells
 * how to use the class.
 */
public final class PressureNets {
    public static final int NONE = -1000000;

    private static final int SIDES = 4;
    private static final int MOST_ZONES = 8;
    private static final int PLACES = SIDES + MOST_ZONES;
    private static final int MOST_LEAKS = 20;
    private static final int MOST_FANS = 4;
    private static final int DUCTS = MOST_LEAKS + MOST_FANS;
    private static final int MOST_CASES = 8;
    private static final int MOST_STEPS = 200;

    private static final int MOST_WIND = 1000;
    private static final int MOST_WARMTH = 1000;
    private static final int MOST_VOLUME = 100000;
    private static final int MOST_HEIGHT = 100;
    private static final int MOST_AREA = 1000;
    private static final int MOST_FAN_FLOW = 10000;
    private static final int MOST_SLOPE = 100;
    private static final int MOST_STUFF = 1000000000;
    private static final int MOST_SOURCE = 1000000;

    private static final int LOWEST = -5000;
    private static final int HIGHEST = 5000;

    private static final int LEAST_DRIVE = 0;
    private static final int GREATEST_DRIVE = 1;
    private static final int CASE_OF_LEAST = 2;
    private static final int CASE_OF_GREATEST = 3;

    private final Net net = new Net();
    private final Settler settler = new Settler(net);
    private final Stuff stuff = new Stuff(net);
    private final State present = new State();
    private final State[] cases = new State[MOST_CASES];
    private int caseCount = 0;

    public PressureNets() {
        for (int k = 0; k < MOST_CASES; k++) {
            cases[k] = new State();
        }
    }

    public int zone(int warmth, int volume) throws IllegalArgumentException, IllegalStateException {
        demandLegal(isWarmth(warmth) && isWithin(volume, 1, MOST_VOLUME));
        demandRoom(net.zoneCount < MOST_ZONES);
        return net.addZone(warmth, volume);
    }

    public int wind(int side, int pressure) throws IllegalArgumentException {
        demandLegal(isSide(side) && isWithin(pressure, -MOST_WIND, MOST_WIND));
        return net.changeWind(rowOf(side), pressure);
    }

    public int warmth(int place, int v) throws IllegalArgumentException {
        demandLegal(isPlace(place) && isWarmth(v));
        return net.changeWarmth(rowOf(place), v);
    }

    public int leak(int a, int b, int height, int area, int kind)
            throws IllegalArgumentException, IllegalStateException {
        demandLegal(canJoin(a, b) && isWithin(height, 0, MOST_HEIGHT)
                && isWithin(area, 1, MOST_AREA) && isWithin(kind, 0, 1));
        demandRoom(net.leakCount < MOST_LEAKS);
        return net.addLeak(rowOf(a), rowOf(b), height, area, kind);
    }

    public boolean shut(int leak, boolean is) throws IllegalArgumentException {
        demandLegal(isLeak(leak));
        int bit = 1 << leak;
        boolean was = (present.shutSet & bit) != 0;
        if (was != is) {
            present.shutSet ^= bit;
            present.madeFor = State.NEVER;
        }
        return was;
    }

    public int fan(int a, int b, int flow, int slope)
            throws IllegalArgumentException, IllegalStateException {
        demandLegal(canJoin(a, b) && isWithin(flow, 0, MOST_FAN_FLOW)
                && isWithin(slope, 0, MOST_SLOPE));
        demandRoom(net.fanCount < MOST_FANS);
        return net.addFan(rowOf(a), rowOf(b), flow, slope);
    }

    // ---- the state

    public int pressure(int place) throws IllegalArgumentException {
        demandLegal(isPlace(place));
        if (isSide(place)) {
            return net.wind[rowOf(place)];
        }
        return settler.settles(present) ? present.pressure[rowOf(place)] : NONE;
    }

    public int told(int leak, int what) throws IllegalArgumentException {
        demandLegal(isLeak(leak) && isWithin(what, 0, 1));
        if (!settler.settles(present)) {
            return NONE;
        }
        return what == 0 ? net.driveOf(leak, present.pressure) : net.flowOf(leak, present);
    }

    public int blows(int fan) throws IllegalArgumentException {
        demandLegal(isWithin(fan, 0, net.fanCount - 1));
        return settler.settles(present) ? net.flowOf(ductOfFan(fan), present) : NONE;
    }

    public int gain(int zone) throws IllegalArgumentException {
        demandLegal(isZone(zone));
        return settler.settles(present) ? net.gainOf(zone, present) : NONE;
    }

    // ---- cases

    public int caseOf(int set) throws IllegalArgumentException, IllegalStateException {
        demandLegal(set >>> net.leakCount == 0);
        demandRoom(caseCount < MOST_CASES);
        int added = caseCount;
        cases[added].shutSet = set;
        caseCount++;
        return added;
    }

    public int worst(int leak, int what) throws IllegalArgumentException {
        demandLegal(isLeak(leak) && isWithin(what, LEAST_DRIVE, CASE_OF_GREATEST));
        boolean wantsGreatest = what == GREATEST_DRIVE || what == CASE_OF_GREATEST;
        int worstCase = NONE;
        int worstDrive = NONE;
        for (int k = 0; k < caseCount; k++) {
            if (!settler.settles(cases[k])) {
                return NONE;
            }
            int drive = net.driveOf(leak, cases[k].pressure);
            boolean isWorse = wantsGreatest ? drive > worstDrive : drive < worstDrive;
            if (worstCase == NONE || isWorse) {
                worstCase = k;
                worstDrive = drive;
            }
        }
        return what == CASE_OF_LEAST || what == CASE_OF_GREATEST ? worstCase : worstDrive;
    }

    // ---- what is carried

    public int put(int zone, int amount) throws IllegalArgumentException {
        demandLegal(isZone(zone) && isWithin(amount, -MOST_STUFF, MOST_STUFF));
        long then = stuff.held[rowOf(zone)] + amount;
        demandLegal(then >= 0 && then <= MOST_STUFF);
        stuff.held[rowOf(zone)] = then;
        return (int) then;
    }

    public int source(int zone, int amount) throws IllegalArgumentException {
        demandLegal(isZone(zone) && isWithin(amount, 0, MOST_SOURCE));
        int was = stuff.sources[rowOf(zone)];
        stuff.sources[rowOf(zone)] = amount;
        return was;
    }

    public int steps(int n) throws IllegalArgumentException {
        demandLegal(isWithin(n, 1, MOST_STEPS));
        if (!settler.settles(present)) {
            return 0;
        }
        stuff.follow(present);
        int done = 0;
        while (done < n && stuff.doesStep()) {
            done++;
        }
        return done;
    }

    public long gone(int side) throws IllegalArgumentException {
        demandLegal(isSide(side));
        return stuff.held[rowOf(side)];
    }

    // ---- what may be asked

    private static void demandLegal(boolean isLegal) {
        if (!isLegal) {
            throw new IllegalArgumentException("out of bounds, or there is no such thing");
        }
    }

    private static void demandRoom(boolean isRoom) {
        if (!isRoom) {
            throw new IllegalStateException("there are as many as there can be");
        }
    }

    private static boolean isWithin(int number, int least, int greatest) {
        return number >= least && number <= greatest;
    }

    private static boolean isWarmth(int number) {
        return isWithin(number, -MOST_WARMTH, MOST_WARMTH);
    }

    private static boolean isSide(int place) {
        return isWithin(place, -SIDES, -1);
    }

    private boolean isZone(int place) {
        return isWithin(place, 0, net.zoneCount - 1);
    }

    private boolean isPlace(int place) {
        return isSide(place) || isZone(place);
    }

    private boolean canJoin(int a, int b) {
        return isPlace(a) && isPlace(b) && a != b && !(isSide(a) && isSide(b));
    }

    private boolean isLeak(int leak) {
        return isWithin(leak, 0, net.leakCount - 1);
    }

    // Rows over all places begin with the sides, so that one index serves sides and zones alike.
    private static int rowOf(int place) {
        return place + SIDES;
    }

    // Fans stand behind the leaks, so that one index serves all that joins two places.
    private static int ductOfFan(int fan) {
        return MOST_LEAKS + fan;
    }

    /** The pressures that settle while a set of leaks is shut. */
    private static final class State {
        static final int NEVER = -1;

        final int[] pressure = new int[PLACES];
        int shutSet = 0;
        int madeFor = NEVER;
        boolean stands = false;
    }

    /** What has been told of the house. A duct is a leak or a fan. */
    private static final class Net {
        final int[] wind = new int[SIDES];
        final int[] warmthAt = new int[PLACES];
        final int[] volume = new int[MOST_ZONES];
        final int[] from = new int[DUCTS];
        final int[] to = new int[DUCTS];
        final int[] height = new int[MOST_LEAKS];
        final int[] area = new int[MOST_LEAKS];
        final int[] kind = new int[MOST_LEAKS];
        final int[] stack = new int[MOST_LEAKS];
        final int[] fanFlow = new int[MOST_FANS];
        final int[] slope = new int[MOST_FANS];
        final int[][] ductsAt = new int[PLACES][DUCTS];
        final int[] ductCountAt = new int[PLACES];
        int zoneCount = 0;
        int leakCount = 0;
        int fanCount = 0;
        // States are kept until this moves on, since most calls only ask.
        int version = 0;

        int addZone(int warmth, int space) {
            int added = zoneCount;
            warmthAt[rowOf(added)] = warmth;
            volume[added] = space;
            zoneCount++;
            version++;
            return added;
        }

        int changeWind(int row, int pressure) {
            int was = wind[row];
            wind[row] = pressure;
            version++;
            return was;
        }

        int changeWarmth(int row, int warmth) {
            int was = warmthAt[row];
            warmthAt[row] = warmth;
            // All sides have the one warmth of the air.
            for (int side = 0; side < SIDES && row < SIDES; side++) {
                warmthAt[side] = warmth;
            }
            for (int leak = 0; leak < leakCount; leak++) {
                measureStack(leak);
            }
            version++;
            return was;
        }

        int addLeak(int a, int b, int high, int wide, int sort) {
            int added = leakCount;
            height[added] = high;
            area[added] = wide;
            kind[added] = sort;
            leakCount++;
            join(added, a, b);
            measureStack(added);
            return added;
        }

        int addFan(int a, int b, int flow, int steepness) {
            int added = fanCount;
            fanFlow[added] = flow;
            slope[added] = steepness;
            fanCount++;
            join(ductOfFan(added), a, b);
            return added;
        }

        private void join(int duct, int a, int b) {
            from[duct] = a;
            to[duct] = b;
            noteDuct(a, duct);
            noteDuct(b, duct);
            version++;
        }

        private void noteDuct(int row, int duct) {
            ductsAt[row][ductCountAt[row]] = duct;
            ductCountAt[row]++;
        }

        private void measureStack(int leak) {
            stack[leak] = height[leak] * (warmthAt[from[leak]] - warmthAt[to[leak]]) / 100;
        }

        boolean isDuct(int duct) {
            return duct < MOST_LEAKS ? duct < leakCount : duct - MOST_LEAKS < fanCount;
        }

        int driveOf(int leak, int[] pressure) {
            return pressure[from[leak]] - pressure[to[leak]] + stack[leak];
        }

        int flowOf(int duct, State state) {
            int[] pressure = state.pressure;
            if (duct >= MOST_LEAKS) {
                int fan = duct - MOST_LEAKS;
                int against = pressure[to[duct]] - pressure[from[duct]];
                int blown = fanFlow[fan] - slope[fan] * against;
                return Math.max(0, Math.min(blown, 2 * fanFlow[fan]));
            }
            if ((state.shutSet >> duct & 1) != 0) {
                return 0;
            }
            int drive = driveOf(duct, pressure);
            if (kind[duct] == 1) {
                return area[duct] * drive;
            }
            return drive < 0 ? -rootFlow(area[duct], -drive) : rootFlow(area[duct], drive);
        }

        int gainOf(int zone, State state) {
            int row = rowOf(zone);
            int[] ducts = ductsAt[row];
            int count = ductCountAt[row];
            int sum = 0;
            for (int k = 0; k < count; k++) {
                int duct = ducts[k];
                int flow = flowOf(duct, state);
                sum += to[duct] == row ? flow : -flow;
            }
            return sum;
        }

        // Newton's way down from above the root, which in whole numbers ends just on it.
        private static int rootFlow(int area, int drive) {
            if (drive <= 0) {
                return 0;
            }
            long above = 1;
            for (int k = 0; k < 32 && above * above < drive; k++) {
                above *= 2;
            }
            long square = (long) area * area * drive;
            long root = area * above;
            for (int k = 0; k < 64 && root > 0; k++) {
                long next = (root + square / root) / 2;
                if (next >= root) {
                    break;
                }
                root = next;
            }
            return (int) root;
        }
    }

    /**
     * Finds the least state from below: no zone's pressure is ever above the one that it has in
     * the least state, and where no zone gains any more, that state is reached.
     */
    private static final class Settler {
        private static final int SWEEPS_IN_BOUT = 4;
        // Each bout but the last raises a zone.
        private static final int MOST_BOUTS = MOST_ZONES * (HIGHEST - LOWEST + 1) + 1;
        private static final int MOST_TRIES = 64;

        private final Net net;
        private final int[] before = new int[PLACES];

        Settler(Net net) {
            this.net = net;
        }

        boolean settles(State state) {
            if (state.madeFor == net.version) {
                return state.stands;
            }
            begin(state);
            int all = (1 << net.zoneCount) - 1;
            int rose = all;
            for (int k = 0; k < MOST_BOUTS && rose != 0 && !isPastHighest(state); k++) {
                rose = doBout(state, all);
                int lift = 1;
                while (rose != 0 && lift < HIGHEST - LOWEST && lifts(state, rose, lift)) {
                    lift *= 2;
                }
                for (lift /= 2; lift > 0; lift /= 2) {
                    lifts(state, rose, lift);
                }
            }
            state.stands = !isPastHighest(state);
            state.madeFor = net.version;
            return state.stands;
        }

        private void begin(State state) {
            Arrays.fill(state.pressure, LOWEST);
            System.arraycopy(net.wind, 0, state.pressure, 0, SIDES);
        }

        private boolean isPastHighest(State state) {
            for (int row = SIDES; row < PLACES; row++) {
                if (state.pressure[row] > HIGHEST) {
                    return true;
                }
            }
            return false;
        }

        // Answers which of the zones rose, as bits. Once all of them did, a lift is cheaper than
        // further sweeps.
        private int doBout(State state, int among) {
            int rose = 0;
            boolean goesOn = true;
            for (int sweep = 0; sweep < SWEEPS_IN_BOUT && goesOn && rose != among; sweep++) {
                goesOn = false;
                for (int zone = 0; zone < net.zoneCount; zone++) {
                    if ((among >> zone & 1) != 0 && raises(state, zone)) {
                        rose |= 1 << zone;
                        goesOn = true;
                    }
                }
            }
            return rose;
        }

        // To the least pressure at which the zone gains nothing, or one past the highest. Most
        // rises are small, so the search begins near and doubles its reach.
        private boolean raises(State state, int zone) {
            int row = rowOf(zone);
            int low = state.pressure[row];
            if (low > HIGHEST || net.gainOf(zone, state) <= 0) {
                return false;
            }
            int high = HIGHEST + 1;
            int reach = 1;
            for (int k = 0; k < MOST_TRIES && high - low > 1; k++) {
                int middle = low + Math.min(reach, (high - low) / 2);
                state.pressure[row] = middle;
                if (net.gainOf(zone, state) > 0) {
                    low = middle;
                    reach *= 2;
                } else {
                    high = middle;
                }
            }
            state.pressure[row] = high;
            return true;
        }

        // Zones that are tightly joined would rise together by ones, thousands of times; this
        // takes them up in one go. Flows hang on differences alone: lifted together, the zones
        // press on one another as before and are held back by all other places no less than
        // before. So if a bout among them raises each of them after the lift, it does so after
        // every smaller lift too: one by one they would come as far, and are not above the least
        // state there.
        private boolean lifts(State state, int among, int lift) {
            System.arraycopy(state.pressure, 0, before, 0, PLACES);
            for (int zone = 0; zone < net.zoneCount; zone++) {
                if ((among >> zone & 1) != 0) {
                    state.pressure[rowOf(zone)] += lift;
                }
            }
            if (!isPastHighest(state) && doBout(state, among) == among) {
                return true;
            }
            System.arraycopy(before, 0, state.pressure, 0, PLACES);
            return false;
        }
    }

    /** What is carried. A side holds what is gone by it. */
    private static final class Stuff {
        final long[] held = new long[PLACES];
        final int[] sources = new int[PLACES];

        private final Net net;
        private final int[] flows = new int[DUCTS];
        private final long[] wholes = new long[PLACES];
        private final long[] then = new long[PLACES];

        Stuff(Net net) {
            this.net = net;
        }

        void follow(State state) {
            Arrays.fill(wholes, 0);
            for (int duct = 0; duct < DUCTS; duct++) {
                flows[duct] = net.isDuct(duct) ? net.flowOf(duct, state) : 0;
                wholes[giverOf(duct)] += Math.abs(flows[duct]);
            }
            for (int zone = 0; zone < net.zoneCount; zone++) {
                wholes[rowOf(zone)] = Math.max(wholes[rowOf(zone)], net.volume[zone]);
            }
        }

        private int giverOf(int duct) {
            return flows[duct] < 0 ? net.to[duct] : net.from[duct];
        }

        private int takerOf(int duct) {
            return flows[duct] < 0 ? net.from[duct] : net.to[duct];
        }

        boolean doesStep() {
            System.arraycopy(held, 0, then, 0, PLACES);
            for (int duct = 0; duct < DUCTS; duct++) {
                carry(duct);
            }
            for (int row = SIDES; row < PLACES; row++) {
                then[row] += sources[row];
                if (then[row] > MOST_STUFF) {
                    return false;
                }
            }
            System.arraycopy(then, 0, held, 0, PLACES);
            return true;
        }

        private void carry(int duct) {
            int giver = giverOf(duct);
            if (flows[duct] == 0 || giver < SIDES || wholes[giver] <= 0) {
                return;
            }
            long part = held[giver] * Math.abs(flows[duct]) / wholes[giver];
            then[giver] -= part;
            then[takerOf(duct)] += part;
        }
    }
}
