import java.math.BigInteger;
import java.util.ArrayList;
import java.util.Arrays;
import java.util.List;

/**
 * The document again, as slow and plain as can be, to hold the class against: pressures rise by
 * ones from the lowest, and nothing is kept from call to call but what was told.
 */
final class SlowNets {
    private record Zone(int volume) { }

    private record Leak(int a, int b, int height, int area, int kind) { }

    private record Fan(int a, int b, int flow, int slope) { }

    private record Move(int giver, int taker, long flow) { }

    private final List<Zone> zones = new ArrayList<>();
    private final List<Leak> leaks = new ArrayList<>();
    private final List<Fan> fans = new ArrayList<>();
    private final List<Integer> cases = new ArrayList<>();
    private final int[] warmth = new int[8];
    private final int[] wind = new int[5];
    private int air = 0;
    private int shutNow = 0;
    private final long[] held = new long[8];
    private final long[] sources = new long[8];
    private final long[] gone = new long[5];

    private static void legal(boolean is) {
        if (!is) {
            throw new IllegalArgumentException();
        }
    }

    private static void room(boolean is) {
        if (!is) {
            throw new IllegalStateException();
        }
    }

    private static boolean in(long n, long least, long most) {
        return least <= n && n <= most;
    }

    private boolean isPlace(int p) {
        return in(p, -4, zones.size() - 1);
    }

    private boolean mayJoin(int a, int b) {
        return isPlace(a) && isPlace(b) && a != b && (a >= 0 || b >= 0);
    }

    long zone(int w, int volume) {
        legal(in(w, -1000, 1000) && in(volume, 1, 100000));
        room(zones.size() < 8);
        warmth[zones.size()] = w;
        zones.add(new Zone(volume));
        return zones.size() - 1;
    }

    long wind(int side, int pressure) {
        legal(in(side, -4, -1) && in(pressure, -1000, 1000));
        int was = wind[-side];
        wind[-side] = pressure;
        return was;
    }

    long warmth(int place, int v) {
        legal(isPlace(place) && in(v, -1000, 1000));
        int was = warm(place);
        if (place < 0) {
            air = v;
        } else {
            warmth[place] = v;
        }
        return was;
    }

    long leak(int a, int b, int height, int area, int kind) {
        legal(mayJoin(a, b) && in(height, 0, 100) && in(area, 1, 1000) && in(kind, 0, 1));
        room(leaks.size() < 20);
        leaks.add(new Leak(a, b, height, area, kind));
        return leaks.size() - 1;
    }

    long shut(int leak, boolean is) {
        legal(in(leak, 0, leaks.size() - 1));
        int was = shutNow >> leak & 1;
        shutNow = is ? shutNow | 1 << leak : shutNow & ~(1 << leak);
        return was;
    }

    long fan(int a, int b, int flow, int slope) {
        legal(mayJoin(a, b) && in(flow, 0, 10000) && in(slope, 0, 100));
        room(fans.size() < 4);
        fans.add(new Fan(a, b, flow, slope));
        return fans.size() - 1;
    }

    long pressure(int place) {
        legal(isPlace(place));
        if (place < 0) {
            return wind[-place];
        }
        int[] p = state(shutNow);
        return p == null ? -1000000 : p[place];
    }

    long told(int leak, int what) {
        legal(in(leak, 0, leaks.size() - 1) && in(what, 0, 1));
        int[] p = state(shutNow);
        if (p == null) {
            return -1000000;
        }
        return what == 0 ? drive(leaks.get(leak), p) : flow(leak, p, shutNow);
    }

    long blows(int fan) {
        legal(in(fan, 0, fans.size() - 1));
        int[] p = state(shutNow);
        return p == null ? -1000000 : blown(fans.get(fan), p);
    }

    long gain(int zone) {
        legal(in(zone, 0, zones.size() - 1));
        int[] p = state(shutNow);
        return p == null ? -1000000 : gainAt(zone, p, shutNow);
    }

    long caseOf(int set) {
        for (int bit = 0; bit < 32; bit++) {
            legal((set >>> bit & 1) == 0 || bit < leaks.size());
        }
        room(cases.size() < 8);
        cases.add(set);
        return cases.size() - 1;
    }

    long worst(int leak, int what) {
        legal(in(leak, 0, leaks.size() - 1) && in(what, 0, 3));
        List<Long> drives = new ArrayList<>();
        for (int set : cases) {
            int[] p = state(set);
            if (p == null) {
                return -1000000;
            }
            drives.add(drive(leaks.get(leak), p));
        }
        if (drives.isEmpty()) {
            return -1000000;
        }
        long sought = drives.stream().mapToLong(d -> d).reduce(
                what % 2 == 0 ? Long::min : Long::max).getAsLong();
        return what < 2 ? sought : drives.indexOf(sought);
    }

    long put(int zone, int amount) {
        legal(in(zone, 0, zones.size() - 1) && in(amount, -1000000000, 1000000000));
        legal(in(held[zone] + amount, 0, 1000000000));
        held[zone] += amount;
        return held[zone];
    }

    long source(int zone, int amount) {
        legal(in(zone, 0, zones.size() - 1) && in(amount, 0, 1000000));
        long was = sources[zone];
        sources[zone] = amount;
        return was;
    }

    long steps(int n) {
        legal(in(n, 1, 200));
        int[] p = state(shutNow);
        int done = 0;
        while (p != null && done < n && step(moves(p))) {
            done++;
        }
        return done;
    }

    long gone(int side) {
        legal(in(side, -4, -1));
        return gone[-side];
    }

    private int warm(int place) {
        return place < 0 ? air : warmth[place];
    }

    private int at(int place, int[] p) {
        return place < 0 ? wind[-place] : p[place];
    }

    private long drive(Leak l, int[] p) {
        return at(l.a, p) - at(l.b, p) + (long) l.height * (warm(l.a) - warm(l.b)) / 100;
    }

    private long flow(int leak, int[] p, int shut) {
        if ((shut >> leak & 1) != 0) {
            return 0;
        }
        Leak l = leaks.get(leak);
        long d = drive(l, p);
        long unsigned = l.kind == 1 ? l.area * Math.abs(d)
                : BigInteger.valueOf((long) l.area * l.area * Math.abs(d)).sqrt().longValueExact();
        return Long.signum(d) * unsigned;
    }

    private long blown(Fan f, int[] p) {
        long b = f.flow - (long) f.slope * (at(f.b, p) - at(f.a, p));
        return b < 0 ? 0 : b > 2L * f.flow ? 2L * f.flow : b;
    }

    long gainAt(int zone, int[] p, int shut) {
        long sum = 0;
        for (int k = 0; k < leaks.size(); k++) {
            Leak l = leaks.get(k);
            if (l.a == zone || l.b == zone) {
                sum += l.b == zone ? flow(k, p, shut) : -flow(k, p, shut);
            }
        }
        for (Fan f : fans) {
            if (f.a == zone || f.b == zone) {
                sum += f.b == zone ? blown(f, p) : -blown(f, p);
            }
        }
        return sum;
    }

    int[] state(int shut) {
        int[] p = new int[zones.size()];
        Arrays.fill(p, -5000);
        boolean rises = true;
        while (rises) {
            rises = false;
            for (int z = 0; z < p.length; z++) {
                while (gainAt(z, p, shut) > 0) {
                    p[z]++;
                    rises = true;
                    if (p[z] > 5000) {
                        return null;
                    }
                }
            }
        }
        return p;
    }

    private List<Move> moves(int[] p) {
        List<Move> all = new ArrayList<>();
        for (int k = 0; k < leaks.size(); k++) {
            long f = flow(k, p, shutNow);
            Leak l = leaks.get(k);
            all.add(f > 0 ? new Move(l.a, l.b, f) : new Move(l.b, l.a, -f));
        }
        for (Fan f : fans) {
            all.add(new Move(f.a, f.b, blown(f, p)));
        }
        return all;
    }

    private boolean step(List<Move> moves) {
        long[] then = held.clone();
        long[] goneThen = gone.clone();
        for (int z = 0; z < zones.size(); z++) {
            final int zone = z;
            long out = moves.stream().filter(m -> m.giver == zone).mapToLong(Move::flow).sum();
            long whole = Math.max(out, zones.get(z).volume);
            for (Move m : moves) {
                if (m.giver == z) {
                    long part = held[z] * m.flow / whole;
                    then[z] -= part;
                    if (m.taker < 0) {
                        goneThen[-m.taker] += part;
                    } else {
                        then[m.taker] += part;
                    }
                }
            }
        }
        for (int z = 0; z < zones.size(); z++) {
            then[z] += sources[z];
            if (then[z] > 1000000000) {
                return false;
            }
        }
        System.arraycopy(then, 0, held, 0, 8);
        System.arraycopy(goneThen, 0, gone, 0, 5);
        return true;
    }
}
