import java.util.ArrayList;
import java.util.Arrays;
import java.util.List;
import java.util.function.Supplier;
import java.util.function.ToLongFunction;

/**
 * "A call that throws changes nothing": each refused call is made on one of two houses built
 * alike, and then all that later calls can show is asked of both. The same for steps that are not
 * done, and for calls that only ask.
 */
public final class RefusedTest extends Checks {
    private static final int[] OUTSIDE_WARMTH = {-1001, 1001, Integer.MIN_VALUE, Integer.MAX_VALUE};

    /** How many there are of each in a house. */
    private record Size(int zones, int leaks, int fans, int cases) {
    }

    private record Refused(String name, ToLongFunction<PressureNets> call) {
    }

    private final String name;
    private final Size size;
    private final Supplier<PressureNets> house;
    private final List<Refused> calls = new ArrayList<>();

    private RefusedTest(String name, Size size, Supplier<PressureNets> house) {
        this.name = name;
        this.size = size;
        this.house = house;
    }

    public static void main(String[] args) {
        Size nothing = new Size(0, 0, 0, 0);
        Size some = new Size(3, 4, 2, 2);
        Size all = new Size(8, 20, 4, 8);
        new RefusedTest("new", nothing, PressureNets::new).wrongArguments();
        new RefusedTest("some", some, () -> built(some)).wrongArguments();
        new RefusedTest("some, asked", some, () -> asked(built(some), some)).wrongArguments();
        new RefusedTest("without state", some, () -> unsettled(some)).wrongArguments();
        new RefusedTest("full", all, () -> built(all)).wrongArguments();
        new RefusedTest("full", all, () -> built(all)).noRoom();
        new RefusedTest("full, asked", all, () -> asked(built(all), all)).noRoom();
        new RefusedTest("some", some, () -> built(some)).questions();
        new RefusedTest("full", all, () -> built(all)).questions();
        new RefusedTest("without state", some, () -> unsettled(some)).stepsThatAreNotDone();
        new RefusedTest("overfull", some, () -> overfull(some)).stepsThatAreNotDone();
        stepsUpToOneThatIsNotDone();
        end("RefusedTest");
    }

    // ---- houses

    private static PressureNets built(Size size) {
        PressureNets x = new PressureNets();
        for (int z = 0; z < size.zones; z++) {
            x.zone(100 * z - 250, 300 + z);
            x.put(z, 1000000 + z);
            x.source(z, 50 + z);
        }
        for (int k = 0; k < size.leaks; k++) {
            int a = k % size.zones;
            x.leak(a, k < size.zones ? -1 - k % 4 : (a + 1) % size.zones, 5 * k, 10 + k, k % 2);
        }
        for (int k = 0; k < size.fans; k++) {
            x.fan(-1 - k, k, 200 + k, k);
        }
        for (int k = 0; k < size.cases; k++) {
            x.caseOf(k + 1);
        }
        x.shut(1, true);
        x.wind(-1, 80);
        x.wind(-3, -60);
        x.warmth(-2, 40);
        x.steps(1);
        return x;
    }

    private static PressureNets asked(PressureNets x, Size size) {
        x.pressure(0);
        for (int leak = 0; leak < size.leaks; leak++) {
            x.worst(leak, 0);
        }
        return x;
    }

    // The fans blow into zones whose leaks are all shut.
    private static PressureNets unsettled(Size size) {
        PressureNets x = built(size);
        for (int leak = 0; leak < size.leaks; leak++) {
            x.shut(leak, true);
        }
        due("unsettled", x.pressure(0), NONE);
        return x;
    }

    private static PressureNets overfull(Size size) {
        PressureNets x = built(size);
        int last = size.zones - 1;
        x.put(last, MOST_STUFF - x.put(last, 0));
        x.source(last, 1000000);
        return x;
    }

    // ---- what later calls show

    private static List<String> shownBy(PressureNets x, Size size) {
        List<String> shown = new ArrayList<>();
        showState(x, size, shown);
        showStuff(x, size, shown);
        for (int leak = 0; leak < size.leaks; leak++) {
            int l = leak;
            shown.add("worst of " + l + " " + answer(() -> x.worst(l, 0)) + " " + answer(() -> x.worst(l, 3)));
        }
        for (int zone = 0; zone < size.zones; zone++) {
            int z = zone;
            shown.add("source of " + z + " " + answer(() -> x.source(z, 7)));
            shown.add("warmth of " + z + " " + answer(() -> x.warmth(z, 70 + 40 * z)));
        }
        shown.add("air " + answer(() -> x.warmth(-1, -30)));
        for (int side = -4; side <= -1; side++) {
            int s = side;
            shown.add("wind of " + s + " " + answer(() -> x.wind(s, 11 * s)));
        }
        for (int leak = 0; leak < size.leaks; leak++) {
            int l = leak;
            shown.add("shut " + l + " " + answer(() -> bit(x.shut(l, false))));
        }
        showState(x, size, shown);
        shown.add("steps " + answer(() -> x.steps(3)));
        showStuff(x, size, shown);
        showRoom(x, shown);
        return shown;
    }

    private static void showState(PressureNets x, Size size, List<String> shown) {
        for (int place = -4; place < size.zones; place++) {
            int p = place;
            shown.add("pressure of " + p + " " + answer(() -> x.pressure(p)));
        }
        for (int zone = 0; zone < size.zones; zone++) {
            int z = zone;
            shown.add("gain of " + z + " " + answer(() -> x.gain(z)));
        }
        for (int leak = 0; leak < size.leaks; leak++) {
            int l = leak;
            shown.add("leak " + l + " " + answer(() -> x.told(l, 0)) + " " + answer(() -> x.told(l, 1)));
        }
        for (int fan = 0; fan < size.fans; fan++) {
            int f = fan;
            shown.add("fan " + f + " " + answer(() -> x.blows(f)));
        }
    }

    private static void showStuff(PressureNets x, Size size, List<String> shown) {
        for (int zone = 0; zone < size.zones; zone++) {
            int z = zone;
            shown.add("held by " + z + " " + answer(() -> x.put(z, 0)));
        }
        for (int side = -4; side <= -1; side++) {
            int s = side;
            shown.add("gone by " + s + " " + answer(() -> x.gone(s)));
        }
    }

    // Up to the last that there is room for: this shows how many of each there were.
    private static void showRoom(PressureNets x, List<String> shown) {
        String got = "";
        for (int k = 0; k <= 8 && !got.equals(STATE); k++) {
            got = answer(() -> x.zone(5, 50));
            shown.add("zone " + got + " " + answer(() -> x.put(0, 0)));
        }
        got = "";
        for (int k = 0; k <= 20 && !got.equals(STATE); k++) {
            got = answer(() -> x.leak(0, -1, 9, 9, 1));
            shown.add("leak " + got);
        }
        got = "";
        for (int k = 0; k <= 4 && !got.equals(STATE); k++) {
            got = answer(() -> x.fan(0, -1, 9, 1));
            shown.add("fan " + got);
        }
        got = "";
        for (int k = 0; k <= 8 && !got.equals(STATE); k++) {
            got = answer(() -> x.caseOf(0));
            shown.add("case " + got);
        }
        shown.add("after all " + answer(() -> x.pressure(0)) + " " + answer(() -> x.worst(0, 1)));
    }

    // ---- the calls

    private void add(String call, ToLongFunction<PressureNets> by) {
        calls.add(new Refused(call, by));
    }

    private void hold(String dueAnswer) {
        List<String> untouched = shownBy(house.get(), size);
        for (Refused refused : calls) {
            PressureNets x = house.get();
            String what = name + ": " + refused.name;
            String got = answer(() -> refused.call.applyAsLong(x));
            if (!dueAnswer.isEmpty()) {
                due(what, got, dueAnswer);
            }
            List<String> shown = shownBy(x, size);
            for (int k = 0; k < untouched.size(); k++) {
                due(what + " changed this", shown.get(k), untouched.get(k));
            }
        }
    }

    private void wrongArguments() {
        wrongZones();
        wrongOutside();
        wrongLeaks();
        wrongFans();
        wrongNumbers();
        wrongThings();
        wrongStuff();
        hold(ARGUMENT);
    }

    private void wrongZones() {
        for (int w : OUTSIDE_WARMTH) {
            add("zone warmth " + w, x -> x.zone(w, 1));
        }
        for (int v : new int[] {0, -1, 100001, Integer.MIN_VALUE, Integer.MAX_VALUE}) {
            add("zone volume " + v, x -> x.zone(0, v));
        }
    }

    private void wrongOutside() {
        for (int side : new int[] {-5, 0, size.zones}) {
            add("wind side " + side, x -> x.wind(side, 99));
            add("gone " + side, x -> x.gone(side));
        }
        for (int side = -4; side <= -1; side++) {
            int s = side;
            for (int n : OUTSIDE_WARMTH) {
                add("wind of " + s + " " + n, x -> x.wind(s, n));
                add("air by " + s + " " + n, x -> x.warmth(s, n));
            }
        }
        for (int place : new int[] {-5, size.zones, 8}) {
            add("warmth place " + place, x -> x.warmth(place, 99));
            add("pressure " + place, x -> x.pressure(place));
        }
        for (int zone = 0; zone < size.zones; zone++) {
            int z = zone;
            add("warmth of " + z, x -> x.warmth(z, 1001));
            add("warmth of " + z, x -> x.warmth(z, -1001));
        }
    }

    private void wrongLeaks() {
        int past = size.zones;
        int[][] wrong = {{-1, -2, 0, 1, 0}, {-3, -3, 0, 1, 0}, {0, 0, 0, 1, 0}, {past, -1, 0, 1, 0},
            {-1, past, 0, 1, 0}, {-5, 0, 0, 1, 0}, {0, -5, 0, 1, 0}, {0, -1, -1, 1, 0}, {0, -1, 101, 1, 0},
            {0, -1, 0, 0, 0}, {0, -1, 0, 1001, 0}, {0, -1, 0, 1, -1}, {0, -1, 0, 1, 2}};
        for (int[] w : wrong) {
            add("leak " + Arrays.toString(w), x -> x.leak(w[0], w[1], w[2], w[3], w[4]));
        }
    }

    private void wrongFans() {
        int past = size.zones;
        int[][] wrong = {{-1, -2, 1, 0}, {-3, -3, 1, 0}, {0, 0, 1, 0}, {past, -1, 1, 0}, {-1, past, 1, 0},
            {-5, 0, 1, 0}, {0, -5, 1, 0}, {0, -1, -1, 0}, {0, -1, 10001, 0}, {0, -1, 1, -1}, {0, -1, 1, 101}};
        for (int[] w : wrong) {
            add("fan " + Arrays.toString(w), x -> x.fan(w[0], w[1], w[2], w[3]));
        }
    }

    private void wrongNumbers() {
        for (int n : new int[] {0, -1, 201, Integer.MIN_VALUE, Integer.MAX_VALUE}) {
            add("steps " + n, x -> x.steps(n));
        }
        for (int set : new int[] {1 << size.leaks, 1 << 20, -1, Integer.MIN_VALUE}) {
            add("caseOf " + set, x -> x.caseOf(set));
        }
        for (int what : new int[] {-1, 2}) {
            add("told what " + what, x -> x.told(0, what));
        }
        for (int what : new int[] {-1, 4}) {
            add("worst what " + what, x -> x.worst(0, what));
        }
    }

    private void wrongThings() {
        for (int leak : new int[] {-1, size.leaks, 20, 31, 32}) {
            add("shut " + leak, x -> bit(x.shut(leak, true)));
            add("open " + leak, x -> bit(x.shut(leak, false)));
            add("told " + leak, x -> x.told(leak, 0));
            add("worst " + leak, x -> x.worst(leak, 0));
        }
        for (int fan : new int[] {-1, size.fans, 4}) {
            add("blows " + fan, x -> x.blows(fan));
        }
        for (int zone : new int[] {-1, size.zones, 8}) {
            add("gain " + zone, x -> x.gain(zone));
            add("put " + zone, x -> x.put(zone, 1));
            add("source " + zone, x -> x.source(zone, 1));
        }
    }

    private void wrongStuff() {
        for (int zone = 0; zone < size.zones; zone++) {
            int z = zone;
            add("put too much into " + z, x -> x.put(z, MOST_STUFF));
            add("put too little into " + z, x -> x.put(z, -MOST_STUFF));
            for (int n : new int[] {-MOST_STUFF - 1, MOST_STUFF + 1, Integer.MIN_VALUE, Integer.MAX_VALUE}) {
                add("put " + n + " into " + z, x -> x.put(z, n));
            }
            for (int n : new int[] {-1, 1000001, Integer.MIN_VALUE, Integer.MAX_VALUE}) {
                add("source of " + z + " " + n, x -> x.source(z, n));
            }
        }
    }

    private void noRoom() {
        add("zone", x -> x.zone(-1000, 1));
        add("zone", x -> x.zone(1000, 100000));
        add("leak", x -> x.leak(0, -1, 100, 1000, 1));
        add("leak", x -> x.leak(-4, 7, 0, 1, 0));
        add("fan", x -> x.fan(-1, 0, 10000, 0));
        add("fan", x -> x.fan(7, -4, 1, 100));
        add("caseOf", x -> x.caseOf(0));
        add("caseOf", x -> x.caseOf((1 << 20) - 1));
        hold(STATE);
    }

    private void questions() {
        for (int place = -4; place < size.zones; place++) {
            int p = place;
            add("pressure " + p, x -> x.pressure(p));
        }
        for (int what = 0; what <= 3; what++) {
            int w = what;
            add("told " + w, x -> x.told(size.leaks - 1, w % 2));
            add("worst " + w, x -> x.worst(size.leaks - 1, w));
            add("gone " + w, x -> x.gone(-1 - w));
        }
        add("blows", x -> x.blows(size.fans - 1));
        add("gain", x -> x.gain(size.zones - 1));
        add("put", x -> x.put(size.zones - 1, 0));
        hold("");
    }

    // Promise 16: "A step is not done if a zone would hold more than 10^9, or there is no STATE."
    private void stepsThatAreNotDone() {
        add("steps 1", x -> x.steps(1));
        add("steps 200", x -> x.steps(200));
        add("steps twice", x -> x.steps(5) + x.steps(6));
        hold("0");
    }

    // Promise 16: "n STEPS, as long as they are done": those before the one that is not stay done
    private static void stepsUpToOneThatIsNotDone() {
        Size size = new Size(3, 4, 2, 2);
        PressureNets many = nearlyFull(size);
        PressureNets just = nearlyFull(size);
        long done = many.steps(200);
        due("16 some were done", done > 1 && done < 200, true);
        due("16 just so many", just.steps((int) done), done);
        List<String> shown = shownBy(many, size);
        List<String> untouched = shownBy(just, size);
        for (int k = 0; k < untouched.size(); k++) {
            due("16 as if just so many", shown.get(k), untouched.get(k));
        }
    }

    private static PressureNets nearlyFull(Size size) {
        PressureNets x = built(size);
        int last = size.zones - 1;
        x.put(last, MOST_STUFF / 2);
        for (int leak = 0; leak < size.leaks; leak++) {
            x.shut(leak, leak != 0 && leak != 1);
        }
        x.source(last, 1000000);
        x.put(last, MOST_STUFF / 2 - 20000000);
        return x;
    }
}
