import java.util.ArrayList;
import java.util.Arrays;
import java.util.Comparator;
import java.util.HashSet;
import java.util.List;
import java.util.Set;
import java.util.function.IntSupplier;

/**
 * A second desk, to hold the first one against: written with the library, with kinds as classes and rows as arrays,
 * so that the FINDINGS are those that the machine itself throws.
 */
public final class DeskModel {
    static final int NONE = -1, BAD = -2, NO = -3, FULL = -4;
    static final int LAST = 2591999;

    static final class Lack extends RuntimeException {
        private static final long serialVersionUID = 1;
    }

    static final class Held extends RuntimeException {
        private static final long serialVersionUID = 1;
    }

    static final class Refused extends RuntimeException {
        private static final long serialVersionUID = 1;
    }

    record Wave(int size, int speed, int phase) { }

    record Survey(int day, int known, int mean, List<Wave> waves) { }

    record Bed(int day, int known, int depth) { }

    record Water(int moment, boolean high, double height) { }

    record Leg(int shoal, int distance, float mark) { }

    static final class Station {
        int mean;
        List<Wave> draft = new ArrayList<>();
        List<Survey> surveys = new ArrayList<>();
        List<Water> waters = new ArrayList<>();
        float[] streams = new float[13];
    }

    static final class Gauge {
        int station, first, step;
        short[] shorts = {}, keptShorts;
        float[] airs = {}, keptAirs;

        int many() {
            return shorts == null ? keptShorts.length : shorts.length;
        }
    }

    static final class Shoal {
        int station, lock;
        List<Bed> beds = new ArrayList<>();
    }

    static final class Passage {
        int ship, route, minute, since, start = NONE;
        boolean waits = true;
        int[] comes;
    }

    interface Waits {
        List<Integer> trace();

        default int patience() {
            trace().add(40);
            return 60;
        }
    }

    interface Tells {
        List<Integer> trace();

        default boolean byDay() {
            trace().add(50);
            return false;
        }
    }

    static class Ship implements Waits, Tells {
        int number, draught, pace, x;
        List<Integer> trace;

        public List<Integer> trace() {
            return trace;
        }

        int nested() {
            return 0;
        }

        int need() {
            trace.add(10);
            return draught + keel();
        }

        int keel() {
            trace.add(20);
            return 30;
        }

        int pace() {
            trace.add(30);
            return pace;
        }
    }

    static class Deep extends Ship {
        @Override int need() {
            trace.add(11);
            return super.need() + draught / 10;
        }

        @Override int keel() {
            trace.add(21);
            return 100;
        }
    }

    static class Light extends Ship {
        @Override public int patience() {
            trace.add(41);
            return 30;
        }
    }

    static final class Tow extends Deep {
        @Override int keel() {
            trace.add(22);
            return super.keel() + x;
        }

        @Override int pace() {
            trace.add(31);
            return super.pace() / x;
        }

        @Override public boolean byDay() {
            trace.add(51);
            return true;
        }
    }

    static final class Ferry extends Light {
        @Override int keel() {
            trace.add(23);
            return 2 * super.keel();
        }

        @Override public int patience() {
            trace.add(42);
            return super.patience() - x;
        }
    }

    static final class Pair extends Ship {
        Ship p, q;

        @Override int nested() {
            return 1 + Math.max(p == null ? 0 : p.nested(), q == null ? 0 : q.nested());
        }

        @Override int need() {
            trace.add(12);
            return Math.max(p.need(), q.need());
        }

        @Override int pace() {
            trace.add(32);
            return Math.min(p.pace(), q.pace());
        }

        @Override public int patience() {
            trace.add(43);
            return (p.patience() + q.patience()) / 2;
        }

        @Override public boolean byDay() {
            trace.add(52);
            return p.byDay() || q.byDay();
        }
    }

    private final Station[] stations = new Station[12];
    private final List<Gauge> gauges = new ArrayList<>();
    private final List<Shoal> shoals = new ArrayList<>();
    private final List<Ship> ships = new ArrayList<>();
    private final Ship[][] fleets = new Ship[4][];
    private final List<List<Leg>> routes = new ArrayList<>();
    private final List<Passage> passages = new ArrayList<>();
    private final List<int[]> windows = new ArrayList<>();
    private final List<Integer> trace = new ArrayList<>();
    private int now, take = 5, fade = 12, steps = 10, rise = 21600, set = 64800;
    private int surveys, dredgings, findings, finding, lacking, asked, tries, wrongs, lastWrong, heldAtMost;
    private boolean gone;

    public DeskModel() {
        for (int i = 0; i < 12; i++) stations[i] = new Station();
        for (int i = 0; i < 6; i++) routes.add(new ArrayList<>());
    }

    private static int kindOf(RuntimeException e) {
        if (e instanceof NullPointerException) return 1;
        if (e instanceof IndexOutOfBoundsException) return 2;
        if (e instanceof ClassCastException) return 3;
        if (e instanceof ArithmeticException) return 4;
        if (e instanceof NegativeArraySizeException) return 5;
        if (e instanceof ArrayStoreException) return 6;
        if (e instanceof Lack) return 7;
        if (e instanceof Held) return 8;
        throw e;
    }

    private int note(RuntimeException e) {
        finding = kindOf(e);
        findings++;
        return finding;
    }

    private boolean full() {
        return findings >= 3000;
    }

    private int act(IntSupplier act) {
        gone = false;
        if (full()) return FULL;
        try {
            return act.getAsInt();
        } catch (Refused e) {
            return NO;
        } catch (RuntimeException e) {
            gone = true;
            return -10 - note(e);
        }
    }

    interface Real {
        double get();
    }

    private long real(boolean good, Real act) {
        if (!good || full()) return Double.doubleToLongBits(Double.NaN);
        try {
            return Double.doubleToLongBits(act.get());
        } catch (RuntimeException e) {
            note(e);
            return Double.doubleToLongBits(Double.NaN);
        }
    }

    private static boolean in(int v, int a, int b) {
        return a <= v && v <= b;
    }

    private static boolean moment(int t) {
        return in(t, 0, LAST);
    }

    // ---- 1

    public int clock(int t) {
        if (!moment(t) || t < now) return BAD;
        now = t;
        return 1;
    }

    public int mean(int station, int v) {
        if (!in(station, 0, 11) || Math.abs((long) v) > 2000) return -100000;
        int was = stations[station].mean;
        stations[station].mean = v;
        return was;
    }

    public int wave(int station, int size, int speed, int phase) {
        if (!in(station, 0, 11) || !in(size, 0, 9999) || !in(speed, 0, 60000) || !in(phase, 0, 65535)) return BAD;
        List<Wave> draft = stations[station].draft;
        if (draft.size() == 8) return FULL;
        draft.add(new Wave(size, speed, phase));
        return draft.size();
    }

    public int survey(int station, int day) {
        if (!in(station, 0, 11) || !in(day, 0, 29)) return BAD;
        if (surveys == 60) return FULL;
        Station s = stations[station];
        s.surveys.add(new Survey(day, now, s.mean, s.draft));
        s.mean = 0;
        s.draft = new ArrayList<>();
        return ++surveys;
    }

    private static double cosine(long a) {
        int n = (int) Math.floorMod(a, 65536L);
        int m = n > 32768 ? 65536 - n : n;
        int k = m > 16384 ? 32768 - m : m;
        double x = k / 16384.0, y = x * x;
        double inner = 0.020863480763353 - y * 0.000919260274839426;
        inner = 0.253669507901048 - y * inner;
        inner = 1.2337005501361697 - y * inner;
        double c = 1.0 - y * inner;
        return m > 16384 ? -c : c;
    }

    public long cos(int a) {
        return Double.doubleToLongBits(cosine(a));
    }

    private Survey inForce(int station, int t, int k) {
        Survey best = null;
        for (int day = t / 86400; day >= 0 && best == null; day--) {
            for (Survey s : stations[station].surveys) if (s.day == day && s.known <= k) best = s;
        }
        return best;
    }

    private double heightAt(int station, int t, int k) {
        Survey s = inForce(station, t, k);
        double h = s.mean / 100.0;
        for (Wave w : s.waves) {
            double part = w.size / 1000.0;
            h += part * cosine(w.phase + (long) w.speed * t / 1000L);
        }
        return h;
    }

    public long height(int station, int t, int k) {
        return real(in(station, 0, 11) && moment(t) && in(k, 0, now), () -> heightAt(station, t, k));
    }

    public int force(int station, int t, int k) {
        if (!in(station, 0, 11) || !moment(t) || !in(k, 0, now)) return BAD;
        return act(() -> inForce(station, t, k).day);
    }

    // ---- 2

    public int gauge(int station, int first, int step) {
        if (!in(station, 0, 11) || !moment(first) || !in(step, 60, 7200)) return BAD;
        if (gauges.size() == 10) return FULL;
        Gauge g = new Gauge();
        g.station = station;
        g.first = first;
        g.step = step;
        gauges.add(g);
        return gauges.size() - 1;
    }

    private boolean isGauge(int gauge) {
        return in(gauge, 0, gauges.size() - 1);
    }

    public int reading(int gauge, int v, int air) {
        if (!isGauge(gauge) || v != (short) v) return BAD;
        Gauge g = gauges.get(gauge);
        if (g.first + g.many() * g.step > now) return NO;
        if (g.many() == 120) return FULL;
        return act(() -> {
            int n = g.shorts.length;
            g.shorts = Arrays.copyOf(g.shorts, n + 1);
            g.airs = Arrays.copyOf(g.airs, n + 1);
            g.shorts[n] = (short) v;
            g.airs[n] = Float.intBitsToFloat(air);
            return n + 1;
        });
    }

    public int out(int gauge, boolean is) {
        if (!isGauge(gauge)) return BAD;
        Gauge g = gauges.get(gauge);
        if (is == (g.shorts == null)) return 0;
        if (is) {
            g.keptShorts = g.shorts;
            g.keptAirs = g.airs;
            g.shorts = null;
            g.airs = null;
        } else {
            g.shorts = g.keptShorts;
            g.airs = g.keptAirs;
        }
        return 1;
    }

    public int at(int gauge, int i) {
        if (!isGauge(gauge) || full()) return -100000;
        int v = act(() -> gauges.get(gauge).shorts[i]);
        return gone ? -100000 - finding : v;
    }

    public int air(int gauge, int i) {
        int none = Float.floatToIntBits(Float.NaN);
        if (!isGauge(gauge) || full()) return none;
        int v = act(() -> Float.floatToIntBits(gauges.get(gauge).airs[i]));
        return gone ? none : v;
    }

    public int compare(int gauge, int i, int j) {
        if (!isGauge(gauge)) return BAD;
        return act(() -> {
            float a = gauges.get(gauge).airs[i], b = gauges.get(gauge).airs[j];
            int sum = a < b ? 1 : 0;
            sum += a <= b ? 2 : 0;
            sum += a > b ? 4 : 0;
            sum += a >= b ? 8 : 0;
            sum += a == b ? 16 : 0;
            return sum + (a != b ? 32 : 0);
        });
    }

    public int rule(int what, int v) {
        int was;
        if (what == 0 && in(v, 1, 9)) {
            was = take;
            take = v;
        } else if (what == 1 && in(v, 1, 48)) {
            was = fade;
            fade = v;
        } else if (what == 2 && in(v, 1, 60)) {
            was = steps;
            steps = v;
        } else {
            was = BAD;
        }
        return was;
    }

    private double surgeOf(Gauge g, int t, boolean counts) {
        List<Integer> moments = new ArrayList<>();
        List<Short> values = new ArrayList<>();
        for (int i = 0; i < g.shorts.length; i++) {
            if (g.first + i * g.step <= t) {
                moments.add(g.first + i * g.step);
                values.add(g.shorts[i]);
            }
        }
        while (moments.size() > take) {
            moments.remove(0);
            values.remove(0);
        }
        List<Double> there = new ArrayList<>();
        int last = 0;
        for (int i = 0; i < moments.size(); i++) {
            int m = moments.get(i);
            if (values.get(i) == -32768 || inForce(g.station, m, now) == null) continue;
            there.add(values.get(i) / 100.0 - heightAt(g.station, m, now));
            last = m;
        }
        if (counts) lacking = moments.size() - there.size();
        if (there.isEmpty()) throw new Lack();
        there.sort(Comparator.naturalOrder());
        double middle = there.get(there.size() % 2 == 0 ? there.size() / 2 - 1 : there.size() / 2);
        int age = t - last;
        if (age >= fade * 3600) return 0.0;
        return middle * ((fade * 3600 - age) / (fade * 3600.0));
    }

    public long surge(int gauge, int t) {
        return real(isGauge(gauge) && moment(t), () -> surgeOf(gauges.get(gauge), t, true));
    }

    public int lacking() {
        return lacking;
    }

    // ---- 3

    public int shoal(int station, int bed, int lock) {
        if (!in(station, 0, 11) || !in(bed, -1000, 5000) || !in(lock, 0, 7200)) return BAD;
        if (shoals.size() == 16) return FULL;
        Shoal s = new Shoal();
        s.station = station;
        s.lock = lock;
        s.beds.add(new Bed(0, now, bed));
        shoals.add(s);
        return shoals.size() - 1;
    }

    private boolean isShoal(int shoal) {
        return in(shoal, 0, shoals.size() - 1);
    }

    public int dredge(int shoal, int day, int bed) {
        if (!isShoal(shoal) || !in(day, 0, 29) || !in(bed, -1000, 5000)) return BAD;
        if (dredgings == 60) return FULL;
        shoals.get(shoal).beds.add(new Bed(day, now, bed));
        return ++dredgings;
    }

    private double depthAt(Shoal s, int t, int k) {
        Bed best = null;
        for (int day = 0; day <= t / 86400; day++) {
            for (Bed b : s.beds) if (b.day == day && b.known <= k) best = b;
        }
        return best.depth / 100.0 + heightAt(s.station, t, k);
    }

    public long depth(int shoal, int t, int k) {
        return real(isShoal(shoal) && moment(t) && in(k, 0, now), () -> depthAt(shoals.get(shoal), t, k));
    }

    private double waterAt(Shoal s, int t) {
        double h = depthAt(s, t, now);
        for (Gauge g : gauges) {
            if (g.station != s.station) continue;
            if (g.shorts == null) return h;
            try {
                return h + surgeOf(g, t, false);
            } catch (Lack e) {
                return h;
            }
        }
        return h;
    }

    public long water(int shoal, int t) {
        return real(isShoal(shoal) && moment(t), () -> waterAt(shoals.get(shoal), t));
    }

    // ---- 4

    public int waters(int station, int from, int n) {
        if (!in(station, 0, 11) || !moment(from) || !in(n, 3, 200)) return BAD;
        if (!moment(from + (n - 1) * 60 * steps)) return BAD;
        return act(() -> {
            double[] h = new double[n];
            for (int i = 0; i < n; i++) h[i] = heightAt(station, from + i * 60 * steps, now);
            List<Water> found = new ArrayList<>();
            for (int i = 1; i < n - 1; i++) {
                int sign = h[i] > h[i - 1] && h[i] >= h[i + 1] ? 1 : h[i] < h[i - 1] && h[i] <= h[i + 1] ? -1 : 0;
                if (sign == 0) continue;
                int low = from + (i - 1) * 60 * steps, high = from + (i + 1) * 60 * steps;
                while (high - low > 1) {
                    int m = (low + high) / 2;
                    if (sign * heightAt(station, m + 1, now) > sign * heightAt(station, m, now)) low = m;
                    else high = m;
                }
                found.add(new Water(high, sign > 0, heightAt(station, high, now)));
            }
            stations[station].waters = found.subList(0, Math.min(40, found.size()));
            return stations[station].waters.size();
        });
    }

    public int found(int station, int i, int what) {
        if (!in(station, 0, 11) || !in(what, 0, 1)) return BAD;
        List<Water> w = stations[station].waters;
        if (!in(i, 0, w.size() - 1)) return NONE;
        return what == 0 ? w.get(i).moment : w.get(i).high ? 1 : 0;
    }

    private double rangeOf(List<Water> w, int i) {
        if (w.get(i).high == w.get(i + 1).high) throw new Lack();
        double a = w.get(i).height, b = w.get(i + 1).height;
        return Math.max(a, b) - Math.min(a, b);
    }

    public long range(int station, int i) {
        boolean good = in(station, 0, 11) && i >= 0 && i < stations[station].waters.size() - 1;
        return real(good, () -> rangeOf(stations[station].waters, i));
    }

    public int spring(int station, boolean great) {
        if (!in(station, 0, 11)) return BAD;
        List<Water> w = stations[station].waters;
        int best = NONE;
        double most = Double.NEGATIVE_INFINITY;
        for (int i = 0; i + 1 < w.size(); i++) {
            if (w.get(i).high == w.get(i + 1).high) continue;
            double r = great ? rangeOf(w, i) : -rangeOf(w, i);
            if (r > most) {
                most = r;
                best = i;
            }
        }
        return best;
    }

    public int tide(int station, int hour, int v) {
        float f = Float.intBitsToFloat(v);
        if (!in(station, 0, 11) || !in(hour, -6, 6) || !(f >= -20.0f && f <= 20.0f)) return BAD;
        stations[station].streams[hour + 6] = f;
        return 1;
    }

    private float streamAt(int station, int t) {
        Water best = null;
        for (Water w : stations[station].waters) {
            if (w.high && (best == null || Math.abs(t - w.moment) < Math.abs(t - best.moment))) best = w;
        }
        if (best == null) throw new Lack();
        int hour = Math.floorDiv(t - best.moment + 1800, 3600);
        return stations[station].streams[hour + 6];
    }

    public int stream(int station, int t) {
        int none = Float.floatToIntBits(Float.NaN);
        if (!in(station, 0, 11) || !moment(t) || full()) return none;
        int v = act(() -> Float.floatToIntBits(streamAt(station, t)));
        return gone ? none : v;
    }

    // ---- 5

    private boolean isShip(int ship) {
        return in(ship, 0, ships.size() - 1);
    }

    private Ship shipOrNull(int ship) {
        return ship == NONE ? null : ships.get(ship);
    }

    public int ship(int kind, int draught, int pace, int x, int p, int q) {
        if (!in(kind, 0, 4) || !in(draught, 0, 3000) || !in(pace, 0, 3000) || !in(x, -1000, 1000)) return BAD;
        Ship s;
        if (kind == 4) {
            if (p != NONE && !isShip(p) || q != NONE && !isShip(q)) return BAD;
            Pair pair = new Pair();
            pair.p = shipOrNull(p);
            pair.q = shipOrNull(q);
            if (pair.nested() == 5) return NO;
            s = pair;
        } else {
            s = kind == 0 ? new Deep() : kind == 1 ? new Light() : kind == 2 ? new Tow() : new Ferry();
        }
        if (ships.size() == 40) return FULL;
        s.number = ships.size();
        s.draught = draught;
        s.pace = pace;
        s.x = x;
        s.trace = trace;
        ships.add(s);
        return s.number;
    }

    private int asking(IntSupplier act) {
        if (full()) return FULL;
        trace.clear();
        return act(act);
    }

    public int ask(int ship, int what) {
        if (!isShip(ship) || !in(what, 0, 4)) return BAD;
        Ship s = ships.get(ship);
        return asking(() -> {
            asked = switch (what) {
                case 0 -> s.need();
                case 1 -> s.keel();
                case 2 -> s.pace();
                case 3 -> s.patience();
                default -> s.byDay() ? 1 : 0;
            };
            return 1;
        });
    }

    public int asked() {
        return asked;
    }

    public int trace(int i) {
        return i >= 0 && i < 100 && i < trace.size() ? trace.get(i) : NONE;
    }

    public int as(int ship, int kind) {
        if (ship != NONE && !isShip(ship) || !in(kind, 0, 4)) return BAD;
        Ship s = shipOrNull(ship);
        return act(() -> {
            asked = switch (kind) {
                case 0 -> ((Deep) s).x;
                case 1 -> ((Light) s).x;
                case 2 -> ((Tow) s).x;
                case 3 -> ((Ferry) s).x;
                default -> ((Pair) s).x;
            };
            return 1;
        });
    }

    public int fleet(int f, int sort, int n) {
        if (!in(f, 0, 3) || !in(sort, 0, 5) || n > 8) return BAD;
        return act(() -> {
            fleets[f] = switch (sort) {
                case 0 -> new Deep[n];
                case 1 -> new Light[n];
                case 2 -> new Tow[n];
                case 3 -> new Ferry[n];
                case 4 -> new Pair[n];
                default -> new Ship[n];
            };
            return 1;
        });
    }

    public int join(int f, int i, int ship) {
        if (!in(f, 0, 3) || ship != NONE && !isShip(ship)) return BAD;
        return act(() -> {
            fleets[f][i] = shipOrNull(ship);
            return 1;
        });
    }

    public int member(int f, int i) {
        if (!in(f, 0, 3)) return BAD;
        return act(() -> fleets[f][i] == null ? NONE : fleets[f][i].number);
    }

    public int move(int f, int i, int other, int j, int n) {
        if (!in(f, 0, 3) || !in(other, 0, 3)) return BAD;
        return act(() -> {
            System.arraycopy(fleets[f], i, fleets[other], j, n);
            return n;
        });
    }

    public int shared(int f, int cost) {
        if (!in(f, 0, 3) || !in(cost, 0, 1000000)) return BAD;
        return act(() -> {
            int n = 0;
            for (Ship s : fleets[f]) if (s != null) n++;
            asked = cost / n;
            return 1;
        });
    }

    // ---- 6

    private boolean started(int route) {
        return passages.stream().anyMatch(p -> p.route == route && p.start != NONE);
    }

    public int leg(int route, int shoal, int distance, int mark) {
        if (!in(route, 0, 5) || !isShoal(shoal) || !in(distance, 0, 50000)) return BAD;
        List<Leg> legs = routes.get(route);
        float m = Float.intBitsToFloat(mark);
        if (!legs.isEmpty() && distance < legs.get(legs.size() - 1).distance || m < 0.0f) return BAD;
        if (started(route)) return NO;
        if (legs.size() == 4) return FULL;
        legs.add(new Leg(shoal, distance, m));
        return legs.size();
    }

    public int clear(int route) {
        if (!in(route, 0, 5)) return BAD;
        if (started(route)) return NO;
        int had = routes.get(route).size();
        routes.get(route).clear();
        return had;
    }

    public int sun(int rise, int set) {
        if (!in(rise, 0, 86400) || !in(set, 0, 86400)) return BAD;
        this.rise = rise;
        this.set = set;
        return 1;
    }

    private int comesTo(Leg leg, int s, int pace) {
        if (pace < 1) throw new Refused();
        long u = s + leg.distance * 100L / pace;
        if (u > LAST) throw new Refused();
        return (int) u;
    }

    public int comes(int ship, int route, int i, int s) {
        if (!isShip(ship) || !in(route, 0, 5) || !in(i, 0, routes.get(route).size() - 1) || !moment(s)) return BAD;
        return asking(() -> comesTo(routes.get(route).get(i), s, ships.get(ship).pace()));
    }

    /** When it comes to each LEG, or null. */
    private int[] holding(int ship, int route, int minute) {
        Ship s = ships.get(ship);
        int need = s.need(), pace = s.pace();
        boolean byDay = s.byDay();
        if (pace < 1) throw new Refused();
        int[] comes = new int[routes.get(route).size()];
        for (int i = 0; i < comes.length; i++) {
            Leg leg = routes.get(route).get(i);
            int u = comesTo(leg, minute * 60, pace);
            comes[i] = u;
            if (byDay && (u % 86400 < rise || u % 86400 >= set)) return null;
            Shoal shoal = shoals.get(leg.shoal);
            if (!(waterAt(shoal, u) >= need / 100.0)) return null;
            if (!Float.isNaN(leg.mark) && !(Math.abs(streamAt(shoal.station, u)) < leg.mark)) return null;
        }
        return comes;
    }

    public int holds(int ship, int route, int minute) {
        if (!isShip(ship) || !in(route, 0, 5) || !in(minute, 0, 43199)) return BAD;
        return asking(() -> holding(ship, route, minute) != null ? 1 : 0);
    }

    public int windows(int ship, int route, int a, int n) {
        if (!isShip(ship) || !in(route, 0, 5) || !in(n, 1, 120) || a < 0 || (long) a + n - 1 > 43199) return BAD;
        if (full()) return FULL;
        trace.clear();
        wrongs = 0;
        lastWrong = 0;
        windows.clear();
        int[] open = null;
        for (int m = a; m < a + n; m++) {
            boolean holds = false;
            try {
                holds = holding(ship, route, m) != null;
            } catch (Refused e) {
                holds = false;
            } catch (RuntimeException e) {
                lastWrong = note(e);
                wrongs++;
            }
            if (!holds) {
                open = null;
            } else if (open == null) {
                open = new int[] {m, m};
                windows.add(open);
            } else {
                open[1] = m;
            }
        }
        while (windows.size() > 20) windows.remove(20);
        return windows.size();
    }

    public int window(int i, boolean last) {
        return in(i, 0, windows.size() - 1) ? windows.get(i)[last ? 1 : 0] : NONE;
    }

    public int wrong(int what) {
        return what == 0 ? wrongs : what == 1 ? lastWrong : BAD;
    }

    public int passage(int ship, int route, int minute) {
        if (!isShip(ship) || !in(route, 0, 5) || !in(minute, 0, 43199)) return BAD;
        if (passages.size() == 40) return FULL;
        Passage p = new Passage();
        p.ship = ship;
        p.route = route;
        p.minute = minute;
        p.since = now;
        passages.add(p);
        return passages.size() - 1;
    }

    /** Where and when: SHOAL, SHOAL (-1 for a LOCK), begin, end. */
    private List<int[]> stays(int route, int[] comes) {
        List<int[]> stays = new ArrayList<>();
        List<Leg> legs = routes.get(route);
        for (int i = 0; i < legs.size(); i++) {
            int s = legs.get(i).shoal;
            int lock = shoals.get(s).lock;
            if (lock != 0) stays.add(new int[] {s, -1, comes[i], comes[i] + lock});
            if (i + 1 == legs.size()) continue;
            int o = legs.get(i + 1).shoal;
            stays.add(new int[] {Math.max(s, o), Math.min(s, o), comes[i], comes[i + 1]});
        }
        return stays;
    }

    private boolean together(int route, int[] comes, Passage other) {
        for (int[] a : stays(route, comes)) {
            for (int[] b : stays(other.route, other.comes)) {
                if (a[0] == b[0] && a[1] == b[1] && a[2] < b[3] && b[2] < a[3]) return true;
            }
        }
        return false;
    }

    private void planIt(Passage p) {
        int patience = Math.min(ships.get(p.ship).patience(), 120);
        for (int m = p.minute; m <= 43199 && m < p.minute + patience; m++) {
            int[] comes;
            try {
                comes = holding(p.ship, p.route, m);
            } catch (Refused e) {
                comes = null;
            }
            if (comes == null) continue;
            boolean free = true;
            for (Passage o : passages) if (o.start != NONE && together(p.route, comes, o)) free = false;
            if (free) {
                p.start = m;
                p.comes = comes;
                return;
            }
        }
    }

    public int plan() {
        if (full()) return FULL;
        trace.clear();
        List<Passage> order = new ArrayList<>();
        for (Passage p : passages) if (p.waits) order.add(p);
        order.sort(Comparator.comparingInt(p -> p.since));
        int started = 0;
        for (Passage p : order) {
            try {
                planIt(p);
            } catch (RuntimeException e) {
                note(e);
            }
            p.waits = false;
            if (p.start != NONE) started++;
        }
        return started;
    }

    public int planned(int p, int what) {
        if (!in(p, 0, passages.size() - 1) || !in(what, 0, 2)) return BAD;
        Passage passage = passages.get(p);
        return what == 0 ? (passage.waits ? 1 : 0) : what == 1 ? passage.start : passage.since;
    }

    public int again(int p) {
        if (!in(p, 0, passages.size() - 1)) return BAD;
        Passage passage = passages.get(p);
        if (passage.waits) return NO;
        passage.waits = true;
        passage.start = NONE;
        passage.since = now;
        return 1;
    }

    private void passFrom(List<Leg> legs, int i, Set<Integer> heldNow, Ship s) {
        if (i == legs.size()) {
            s.pace();
            s.patience();
            return;
        }
        int shoal = legs.get(i).shoal;
        if (shoals.get(shoal).lock == 0) {
            passFrom(legs, i + 1, heldNow, s);
            return;
        }
        if (!heldNow.add(shoal)) throw new Held();
        heldAtMost = Math.max(heldAtMost, heldNow.size());
        try {
            passFrom(legs, i + 1, heldNow, s);
        } finally {
            heldNow.remove(shoal);
        }
    }

    public int pass(int p) {
        if (!in(p, 0, passages.size() - 1)) return BAD;
        return asking(() -> {
            tries++;
            heldAtMost = 0;
            Ship s = ships.get(passages.get(p).ship);
            s.need();
            passFrom(routes.get(passages.get(p).route), 0, new HashSet<>(), s);
            return 1;
        });
    }

    public int tries() {
        return tries;
    }

    public int held(int what) {
        return what == 0 ? 0 : what == 1 ? heldAtMost : BAD;
    }

    // ---- 7

    public int count(int what) {
        int[] counts = {now, surveys, gauges.size(), shoals.size(), dredgings, ships.size(), passages.size(),
            windows.size(), findings};
        return in(what, 0, 8) ? counts[what] : BAD;
    }

    public int finding() {
        return finding;
    }

    public int digest() {
        int h = 7;
        for (Passage p : passages) h = 31 * h + p.start;
        return h;
    }
}
