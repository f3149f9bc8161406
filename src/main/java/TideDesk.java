/** A tide desk. What each call answers is promised in the document, DOC.md; its words stand in capitals here. */
public final class TideDesk {
    public static final int NONE = -1, BAD = -2, NO = -3, FULL = -4;

    private static final int NULL = 1, INDEX = 2, CAST = 3, ZERO = 4, SIZE = 5, STORE = 6, LACK = 7, HELD = 8;
    private static final int FINDINGS_AT_MOST = 3000;

    private static final int DAY = 86400, DAYS = 30, LAST_MOMENT = DAYS * DAY - 1, LAST_MINUTE = 43199;
    private static final int STATIONS = 12, SURVEYS = 60, WAVES_AT_MOST = 8;
    private static final int GAUGES = 10, READINGS = 120, NO_SHORT = -32768, LAST_SHORT = 32767;
    private static final int SHOALS = 16, DREDGINGS = 60;
    private static final int WATERS_KEPT = 40, SAMPLES = 200, HOURS = 13, HOURS_BEFORE = 6;
    private static final int SHIPS = 40, PAIRS_DEEP = 4, TRACE_LENGTH = 100;
    private static final int DEEP = 0, LIGHT = 1, TOW = 2, FERRY = 3, PAIR = 4, ANY_KIND = 5;
    private static final int NEED = 0, KEEL = 1, PACE = 2, PATIENCE = 3, BY_DAY = 4;
    // By what is asked; of the KEEL they have no BODY of their own.
    private static final int[] PAIR_BODIES = {12, 20, 32, 43, 52};
    private static final int FLEETS = 4, PLACES = 8;
    private static final int ROUTES = 6, LEGS = 4, WINDOWS_KEPT = 20, MINUTES_AT_ONCE = 120, PASSAGES = 40;

    private static final int BAD_HUNDREDTHS = -100000;
    private static final long NO_REAL = 9221120237041090560L;
    private static final int NO_FLOAT = 2143289344, WITHOUT_SIGN = 0x7fffffff;
    private static final int ENDLESS_BITS = 0x7f800000, TWENTY_BITS = 0x41a00000;

    private final Waves waves;
    private final Gauges gauges;
    private final Shoals shoals;
    private final Tides tides;
    private final Ships ships;
    private final Fleets fleets;
    private final Routes routes;
    private final Runs runs;
    private final Passages passages;
    private final int[] arrivals;
    private int now;
    private int findingsEver;
    private int latestFinding;
    private int latestLacking;
    private int told;
    private int triesEver;

    public TideDesk() {
        waves = new Waves();
        gauges = new Gauges(waves);
        shoals = new Shoals(waves, gauges);
        tides = new Tides(waves);
        ships = new Ships();
        fleets = new Fleets(ships);
        routes = new Routes();
        runs = new Runs();
        passages = new Passages(routes, shoals);
        arrivals = new int[LEGS];
    }

    public int clock(int t) {
        if (!isMoment(t) || t < now) return BAD;
        now = t;
        return 1;
    }

    // ---- 1 waves

    public int mean(int station, int v) {
        if (!isStation(station) || !within(v, -2000, 2000)) return BAD_HUNDREDTHS;
        return waves.setMean(station, v);
    }

    public int wave(int station, int size, int speed, int phase) {
        if (!isStation(station) || !within(size, 0, 9999)) return BAD;
        if (!within(speed, 0, 60000) || !within(phase, 0, 65535)) return BAD;
        return waves.addWave(station, size, speed, phase);
    }

    public int survey(int station, int day) {
        if (!isStation(station) || !isDay(day)) return BAD;
        return waves.takeSurvey(station, day, now);
    }

    public long cos(int a) {
        return realBits(cosine(a));
    }

    public long height(int station, int t, int k) {
        if (!isStation(station) || !isMoment(t) || !isPast(k) || noMoreFindings()) return NO_REAL;
        int survey = waves.surveys.inForce(station, t, k);
        if (survey < 0) return noReal(NULL);
        return realBits(waves.heightBy(survey, t));
    }

    public int force(int station, int t, int k) {
        if (!isStation(station) || !isMoment(t) || !isPast(k)) return BAD;
        if (noMoreFindings()) return FULL;
        int survey = waves.surveys.inForce(station, t, k);
        return survey < 0 ? tell(NULL) : waves.surveys.days[survey];
    }

    // ---- 2 gauges

    public int gauge(int station, int first, int step) {
        if (!isStation(station) || !isMoment(first) || !within(step, 60, 7200)) return BAD;
        return gauges.addGauge(station, first, step);
    }

    public int reading(int gauge, int v, int air) {
        if (!isGauge(gauge) || !within(v, NO_SHORT, LAST_SHORT)) return BAD;
        if (gauges.nextMoment(gauge) > now) return NO;
        if (gauges.many[gauge] >= READINGS || noMoreFindings()) return FULL;
        if (gauges.isOut[gauge]) return tell(NULL);
        return gauges.addReading(gauge, v, isNoNumber(air) ? NO_FLOAT : air);
    }

    public int out(int gauge, boolean is) {
        if (!isGauge(gauge)) return BAD;
        if (gauges.isOut[gauge] == is) return 0;
        gauges.isOut[gauge] = is;
        return 1;
    }

    public int at(int gauge, int i) {
        if (!isGauge(gauge) || noMoreFindings()) return BAD_HUNDREDTHS;
        int fault = gauges.faultAt(gauge, i);
        if (fault == 0) return gauges.shorts[gauge * READINGS + i];
        tell(fault);
        return BAD_HUNDREDTHS - fault;
    }

    public int air(int gauge, int i) {
        if (!isGauge(gauge) || noMoreFindings()) return NO_FLOAT;
        int fault = gauges.faultAt(gauge, i);
        return fault == 0 ? gauges.airs[gauge * READINGS + i] : noFloat(fault);
    }

    public int compare(int gauge, int i, int j) {
        if (!isGauge(gauge)) return BAD;
        if (noMoreFindings()) return FULL;
        int fault = gauges.faultAt(gauge, i);
        if (fault == 0) fault = gauges.faultAt(gauge, j);
        if (fault != 0) return tell(fault);
        return compareFloats(gauges.airs[gauge * READINGS + i], gauges.airs[gauge * READINGS + j]);
    }

    public int rule(int what, int v) {
        switch (what) {
            case 0: return within(v, 1, 9) ? gauges.setTake(v) : BAD;
            case 1: return within(v, 1, 48) ? gauges.setFade(v) : BAD;
            case 2: return within(v, 1, 60) ? tides.setSteps(v) : BAD;
            default: return BAD;
        }
    }

    public long surge(int gauge, int t) {
        if (!isGauge(gauge) || !isMoment(t) || noMoreFindings()) return NO_REAL;
        int fault = gauges.reckonSurge(gauge, t, now);
        if (fault == NULL) return noReal(NULL);
        latestLacking = gauges.absent;
        return fault != 0 ? noReal(fault) : realBits(gauges.surgeFound);
    }

    public int lacking() {
        return latestLacking;
    }

    // ---- 3 shoals

    public int shoal(int station, int bed, int lock) {
        if (!isStation(station) || !isBed(bed) || !within(lock, 0, 7200)) return BAD;
        return shoals.addShoal(station, bed, lock, now);
    }

    public int dredge(int shoal, int day, int bed) {
        if (!isShoal(shoal) || !isDay(day) || !isBed(bed)) return BAD;
        return shoals.addDredging(shoal, day, bed, now);
    }

    public long depth(int shoal, int t, int k) {
        if (!isShoal(shoal) || !isMoment(t) || !isPast(k) || noMoreFindings()) return NO_REAL;
        int fault = shoals.reckonDepth(shoal, t, k);
        return fault != 0 ? noReal(fault) : realBits(shoals.level);
    }

    public long water(int shoal, int t) {
        if (!isShoal(shoal) || !isMoment(t) || noMoreFindings()) return NO_REAL;
        int fault = shoals.reckonWater(shoal, t, now);
        return fault != 0 ? noReal(fault) : realBits(shoals.level);
    }

    // ---- 4 waters, streams

    public int waters(int station, int from, int n) {
        if (!isStation(station) || !isMoment(from) || !within(n, 3, SAMPLES)) return BAD;
        if (!isMoment(from + (n - 1) * tides.stepSeconds())) return BAD;
        if (noMoreFindings()) return FULL;
        if (!tides.sample(station, from, n, now)) return tell(NULL);
        return tides.keepWaters(station, from, n, now);
    }

    public int found(int station, int i, int what) {
        if (!isStation(station) || !within(what, 0, 1)) return BAD;
        if (!within(i, 0, tides.many[station] - 1)) return NONE;
        int w = station * WATERS_KEPT + i;
        if (what == 0) return tides.moments[w];
        return tides.isHigh[w] ? 1 : 0;
    }

    public long range(int station, int i) {
        if (!isStation(station) || !within(i, 0, tides.many[station] - 2) || noMoreFindings()) return NO_REAL;
        int w = station * WATERS_KEPT + i;
        return tides.hasRange(w) ? realBits(tides.rangeOf(w)) : noReal(LACK);
    }

    public int spring(int station, boolean great) {
        return isStation(station) ? tides.extremeRange(station, great) : BAD;
    }

    public int tide(int station, int hour, int v) {
        if (!isStation(station) || !within(hour, -HOURS_BEFORE, HOURS_BEFORE)) return BAD;
        if ((v & WITHOUT_SIGN) > TWENTY_BITS) return BAD;
        tides.streams[station * HOURS + hour + HOURS_BEFORE] = v;
        return 1;
    }

    public int stream(int station, int t) {
        if (!isStation(station) || !isMoment(t) || noMoreFindings()) return NO_FLOAT;
        int fault = tides.seekStream(station, t);
        return fault != 0 ? noFloat(fault) : tides.streamFound;
    }

    // ---- 5 ships, fleets

    public int ship(int kind, int draught, int pace, int x, int p, int q) {
        if (!isKind(kind) || !within(draught, 0, 3000)) return BAD;
        if (!within(pace, 0, 3000) || !within(x, -1000, 1000)) return BAD;
        boolean isPair = kind == PAIR;
        if (isPair && !(isShipOrNothing(p) && isShipOrNothing(q))) return BAD;
        int level = isPair ? ships.pairLevel(p, q) : 0;
        if (level > PAIRS_DEEP) return NO;
        int s = ships.addShip(kind, draught, pace, x);
        if (s >= 0 && isPair) ships.bindPair(s, p, q, level);
        return s;
    }

    public int ask(int ship, int what) {
        if (!isShip(ship) || !within(what, NEED, BY_DAY)) return BAD;
        if (noMoreFindings()) return FULL;
        ships.emptyTrace();
        int answer = ships.answer(ship, what);
        int fault = ships.takeFault();
        if (fault != 0) return tell(fault);
        told = answer;
        return 1;
    }

    public int asked() {
        return told;
    }

    public int trace(int i) {
        return within(i, 0, ships.traced - 1) ? ships.bodies[i] : NONE;
    }

    public int as(int ship, int kind) {
        if (!isShipOrNothing(ship) || !isKind(kind)) return BAD;
        if (noMoreFindings()) return FULL;
        if (ship == NONE) return tell(NULL);
        if (!ships.isOf(ship, kind)) return tell(CAST);
        told = ships.xs[ship];
        return 1;
    }

    public int fleet(int f, int sort, int n) {
        if (!isFleet(f) || !within(sort, DEEP, ANY_KIND) || n > PLACES) return BAD;
        if (noMoreFindings()) return FULL;
        if (n < 0) return tell(SIZE);
        fleets.make(f, sort, n);
        return 1;
    }

    public int join(int f, int i, int ship) {
        if (!isFleet(f) || !isShipOrNothing(ship)) return BAD;
        if (noMoreFindings()) return FULL;
        int fault = fleets.faultAt(f, i, 1);
        if (fault == 0 && !fleets.takes(f, ship)) fault = STORE;
        if (fault != 0) return tell(fault);
        fleets.places[f * PLACES + i] = ship;
        return 1;
    }

    public int member(int f, int i) {
        if (!isFleet(f)) return BAD;
        if (noMoreFindings()) return FULL;
        int fault = fleets.faultAt(f, i, 1);
        return fault != 0 ? tell(fault) : fleets.places[f * PLACES + i];
    }

    public int move(int f, int i, int other, int j, int n) {
        if (!isFleet(f) || !isFleet(other)) return BAD;
        if (noMoreFindings()) return FULL;
        if (fleets.lengths[f] < 0 || fleets.lengths[other] < 0) return tell(NULL);
        int fault = fleets.faultAt(f, i, n);
        if (fault == 0) fault = fleets.faultAt(other, j, n);
        if (fault != 0) return tell(fault);
        return fleets.copyPlaces(f * PLACES + i, other, j, n) ? n : tell(STORE);
    }

    public int shared(int f, int cost) {
        if (!isFleet(f) || !within(cost, 0, 1000000)) return BAD;
        if (noMoreFindings()) return FULL;
        if (fleets.lengths[f] < 0) return tell(NULL);
        int many = fleets.standing(f);
        if (many == 0) return tell(ZERO);
        told = cost / many;
        return 1;
    }

    // ---- 6 routes, windows, passages

    public int leg(int route, int shoal, int distance, int mark) {
        if (!isRoute(route) || !isShoal(shoal) || !within(distance, routes.lastDistance(route), 50000)) return BAD;
        if (!isNoNumber(mark) && floatOrder(mark) < 0) return BAD;
        if (passages.useRoute(route)) return NO;
        return routes.addLeg(route, shoal, distance, mark);
    }

    public int clear(int route) {
        if (!isRoute(route)) return BAD;
        if (passages.useRoute(route)) return NO;
        int had = routes.legs[route];
        routes.legs[route] = 0;
        return had;
    }

    public int sun(int rise, int set) {
        if (!within(rise, 0, DAY) || !within(set, 0, DAY)) return BAD;
        routes.rise = rise;
        routes.set = set;
        return 1;
    }

    public int comes(int ship, int route, int i, int s) {
        if (!isShip(ship) || !isRoute(route) || !isMoment(s)) return BAD;
        if (!within(i, 0, routes.legs[route] - 1)) return BAD;
        if (noMoreFindings()) return FULL;
        ships.emptyTrace();
        int pace = ships.answer(ship, PACE);
        int fault = ships.takeFault();
        if (fault != 0) return tell(fault);
        return routes.arrival(route * LEGS + i, s, pace);
    }

    public int holds(int ship, int route, int minute) {
        if (!isShip(ship) || !isRoute(route) || !isMinute(minute)) return BAD;
        if (noMoreFindings()) return FULL;
        ships.emptyTrace();
        return minuteHolds(ship, route, minute);
    }

    public int windows(int ship, int route, int a, int n) {
        if (!isShip(ship) || !isRoute(route) || !within(n, 1, MINUTES_AT_ONCE)) return BAD;
        if (!within(a, 0, LAST_MINUTE + 1 - n)) return BAD;
        if (noMoreFindings()) return FULL;
        ships.emptyTrace();
        runs.empty();
        for (int minute = a; minute < a + n; minute++) {
            runs.note(minute, minuteHolds(ship, route, minute));
        }
        return runs.many;
    }

    public int window(int i, boolean last) {
        if (!within(i, 0, runs.many - 1)) return NONE;
        return last ? runs.lasts[i] : runs.firsts[i];
    }

    public int wrong(int what) {
        if (!within(what, 0, 1)) return BAD;
        return what == 0 ? runs.wrongs : runs.lastWrong;
    }

    public int passage(int ship, int route, int minute) {
        if (!isShip(ship) || !isRoute(route) || !isMinute(minute)) return BAD;
        return passages.addPassage(ship, route, minute, now);
    }

    public int plan() {
        if (noMoreFindings()) return FULL;
        ships.emptyTrace();
        int started = 0;
        for (int turn = 0; turn < PASSAGES; turn++) {
            int p = passages.longestWaiting();
            if (p < 0) break;
            if (planOne(p)) started++;
        }
        return started;
    }

    public int planned(int p, int what) {
        if (!isPassage(p) || !within(what, 0, 2)) return BAD;
        if (what == 1) return passages.starts[p];
        if (what == 2) return passages.since[p];
        return passages.waits[p] ? 1 : 0;
    }

    public int again(int p) {
        if (!isPassage(p)) return BAD;
        if (passages.waits[p]) return NO;
        passages.letWait(p, now);
        return 1;
    }

    public int pass(int p) {
        if (!isPassage(p)) return BAD;
        if (noMoreFindings()) return FULL;
        triesEver++;
        ships.emptyTrace();
        shoals.heldAtMost = 0;
        int fault = passLocks(passages.ships[p], passages.routes[p]);
        shoals.freeAll();
        return fault != 0 ? tell(fault) : 1;
    }

    public int tries() {
        return triesEver;
    }

    public int held(int what) {
        if (!within(what, 0, 1)) return BAD;
        return what == 0 ? shoals.heldNow : shoals.heldAtMost;
    }

    // ---- 7 status

    public int count(int what) {
        switch (what) {
            case 0: return now;
            case 1: return waves.surveys.many;
            case 2: return gauges.count;
            case 3: return shoals.count;
            case 4: return shoals.dredgings();
            case 5: return ships.count;
            case 6: return passages.count;
            case 7: return runs.many;
            case 8: return findingsEver;
            default: return BAD;
        }
    }

    public int finding() {
        return latestFinding;
    }

    public int digest() {
        int h = 7;
        for (int p = 0; p < passages.count; p++) {
            h = 31 * h + passages.starts[p];
        }
        return h;
    }

    // ---- what the calls share

    /** Whether a minute HOLDS: 1, 0, NO, or the answer of a FINDING. Leaves in arrivals when the SHIP comes. */
    private int minuteHolds(int ship, int route, int minute) {
        int need = ships.answer(ship, NEED);
        int pace = ships.answer(ship, PACE);
        boolean byDay = ships.answer(ship, BY_DAY) != 0;
        int fault = ships.takeFault();
        if (fault != 0) return tell(fault);
        if (pace < 1) return NO;
        for (int i = 0; i < routes.legs[route]; i++) {
            int leg = route * LEGS + i;
            int u = routes.arrival(leg, 60 * minute, pace);
            if (u == NO) return NO;
            arrivals[i] = u;
            int passes = legPasses(leg, u, need, byDay);
            if (passes != 1) return passes;
        }
        return 1;
    }

    private int legPasses(int leg, int u, int need, boolean byDay) {
        if (byDay && !routes.isSunUp(u)) return 0;
        int shoal = routes.shoalOf[leg];
        int fault = shoals.reckonWater(shoal, u, now);
        if (fault != 0) return tell(fault);
        if (shoals.level < need / 100.0) return 0;
        int mark = routes.marks[leg];
        if (isNoNumber(mark)) return 1;
        fault = tides.seekStream(shoals.stations[shoal], u);
        if (fault != 0) return tell(fault);
        return (tides.streamFound & WITHOUT_SIGN) < floatOrder(mark) ? 1 : 0;
    }

    private boolean planOne(int p) {
        int ship = passages.ships[p];
        int route = passages.routes[p];
        passages.waits[p] = false;
        int patience = Math.min(ships.answer(ship, PATIENCE), MINUTES_AT_ONCE);
        int fault = ships.takeFault();
        if (fault != 0) {
            tell(fault);
            return false;
        }
        int last = Math.min(passages.minutes[p] + patience - 1, LAST_MINUTE);
        for (int minute = passages.minutes[p]; minute <= last; minute++) {
            int holds = minuteHolds(ship, route, minute);
            if (isFindingAnswer(holds)) return false;
            if (holds == 1 && !passages.clashes(route, arrivals)) {
                passages.setStart(p, minute, arrivals);
                return true;
            }
        }
        return false;
    }

    /** Leaves the SHOALS HELD: whoever calls it frees them, whatever came. */
    private int passLocks(int ship, int route) {
        ships.answer(ship, NEED);
        int fault = ships.takeFault();
        for (int i = 0; i < routes.legs[route] && fault == 0; i++) {
            fault = shoals.hold(routes.shoalOf[route * LEGS + i]);
        }
        if (fault != 0) return fault;
        ships.answer(ship, PACE);
        ships.answer(ship, PATIENCE);
        return ships.takeFault();
    }

    private int tell(int what) {
        findingsEver++;
        latestFinding = what;
        return -10 - what;
    }

    private long noReal(int what) {
        tell(what);
        return NO_REAL;
    }

    private int noFloat(int what) {
        tell(what);
        return NO_FLOAT;
    }

    private boolean noMoreFindings() {
        return findingsEver >= FINDINGS_AT_MOST;
    }

    private static boolean isFindingAnswer(int answer) {
        return answer < -10;
    }

    private static boolean within(int v, int least, int most) {
        return v >= least && v <= most;
    }

    private static boolean isMoment(int t) {
        return within(t, 0, LAST_MOMENT);
    }

    private boolean isPast(int k) {
        return within(k, 0, now);
    }

    private static boolean isDay(int day) {
        return within(day, 0, DAYS - 1);
    }

    private static boolean isMinute(int minute) {
        return within(minute, 0, LAST_MINUTE);
    }

    private static boolean isStation(int station) {
        return within(station, 0, STATIONS - 1);
    }

    private static boolean isBed(int bed) {
        return within(bed, -1000, 5000);
    }

    private static boolean isKind(int kind) {
        return within(kind, DEEP, PAIR);
    }

    private static boolean isFleet(int f) {
        return within(f, 0, FLEETS - 1);
    }

    private static boolean isRoute(int route) {
        return within(route, 0, ROUTES - 1);
    }

    private boolean isGauge(int gauge) {
        return within(gauge, 0, gauges.count - 1);
    }

    private boolean isShoal(int shoal) {
        return within(shoal, 0, shoals.count - 1);
    }

    private boolean isShip(int ship) {
        return within(ship, 0, ships.count - 1);
    }

    private boolean isShipOrNothing(int ship) {
        return ship == NONE || isShip(ship);
    }

    private boolean isPassage(int p) {
        return within(p, 0, passages.count - 1);
    }

    /**
     * BITS by sums alone, as the library's own are not at hand. No act of the desk gives -0.0, or one so near to it
     * that its BITS would need another form.
     */
    private static long realBits(double v) {
        if (v == 0.0) return 0L;
        double a = v < 0.0 ? 0.0 - v : v;
        int exponent = 1023;
        for (int i = 0; i < 1100 && a >= 2.0; i++) {
            a = a / 2.0;
            exponent++;
        }
        for (int i = 0; i < 1100 && a < 1.0; i++) {
            a = a * 2.0;
            exponent--;
        }
        long fraction = (long) (a * 4503599627370496.0) - (1L << 52);
        long bits = ((long) exponent << 52) + fraction;
        return v < 0.0 ? bits | (1L << 63) : bits;
    }

    private static double cosine(int a) {
        // The mask is the modulo that is never below 0.
        int n = a & 65535;
        int m = n > 32768 ? 65536 - n : n;
        int k = m > 16384 ? 32768 - m : m;
        double x = k / 16384.0;
        double y = x * x;
        double c = 1.0 - y * (1.2337005501361697 - y * (0.253669507901048
                - y * (0.020863480763353 - y * 0.000919260274839426)));
        return m > 16384 ? 0.0 - c : c;
    }

    private static boolean isNoNumber(int bits) {
        return (bits & WITHOUT_SIGN) > ENDLESS_BITS;
    }

    /** An int that stands among others as the FLOAT of these BITS, a number, among others; both zeros are 0. */
    private static int floatOrder(int bits) {
        return bits >= 0 ? bits : -(bits & WITHOUT_SIGN);
    }

    private static int compareFloats(int a, int b) {
        if (isNoNumber(a) || isNoNumber(b)) return 32;
        int p = floatOrder(a);
        int q = floatOrder(b);
        if (p < q) return 1 + 2 + 32;
        return p > q ? 4 + 8 + 32 : 2 + 8 + 16;
    }

    /** What is told in two times: from a DAY on, and KNOWN from the NOW on at which it was told. */
    private static final class Tellings {
        final int[] owners;
        final int[] days;
        final int[] moments;
        int many;

        Tellings(int most) {
            owners = new int[most];
            days = new int[most];
            moments = new int[most];
        }

        /** The caller has looked whether there is room. */
        int add(int owner, int day, int now) {
            owners[many] = owner;
            days[many] = day;
            moments[many] = now;
            return many++;
        }

        int inForce(int owner, int t, int k) {
            int best = NONE;
            int day = t / DAY;
            for (int i = 0; i < many; i++) {
                boolean counts = owners[i] == owner && moments[i] <= k && days[i] <= day;
                if (counts && (best < 0 || days[i] >= days[best])) best = i;
            }
            return best;
        }
    }

    private static final class Waves {
        final Tellings surveys = new Tellings(SURVEYS);
        // The first rows are the DRAFTS of the STATIONS, those behind them the SURVEYS.
        final int[] means = new int[STATIONS + SURVEYS];
        final int[] many = new int[STATIONS + SURVEYS];
        final int[] sizes = new int[(STATIONS + SURVEYS) * WAVES_AT_MOST];
        final int[] speeds = new int[(STATIONS + SURVEYS) * WAVES_AT_MOST];
        final int[] phases = new int[(STATIONS + SURVEYS) * WAVES_AT_MOST];

        int setMean(int station, int v) {
            int was = means[station];
            means[station] = v;
            return was;
        }

        int addWave(int station, int size, int speed, int phase) {
            if (many[station] >= WAVES_AT_MOST) return FULL;
            int w = station * WAVES_AT_MOST + many[station];
            sizes[w] = size;
            speeds[w] = speed;
            phases[w] = phase;
            many[station]++;
            return many[station];
        }

        int takeSurvey(int station, int day, int now) {
            if (surveys.many >= SURVEYS) return FULL;
            int row = STATIONS + surveys.add(station, day, now);
            means[row] = means[station];
            many[row] = many[station];
            copyRow(sizes, station, row);
            copyRow(speeds, station, row);
            copyRow(phases, station, row);
            means[station] = 0;
            many[station] = 0;
            return surveys.many;
        }

        private static void copyRow(int[] table, int from, int to) {
            System.arraycopy(table, from * WAVES_AT_MOST, table, to * WAVES_AT_MOST, WAVES_AT_MOST);
        }

        double heightBy(int survey, int t) {
            int row = STATIONS + survey;
            int first = row * WAVES_AT_MOST;
            double h = means[row] / 100.0;
            for (int w = first; w < first + many[row]; w++) {
                long angle = phases[w] + (long) speeds[w] * t / 1000;
                h = h + sizes[w] / 1000.0 * cosine((int) angle);
            }
            return h;
        }

        /** For MOMENTS for which the caller knows that a SURVEY is IN FORCE. */
        double heightAt(int station, int t, int k) {
            int survey = surveys.inForce(station, t, k);
            return survey < 0 ? 0.0 : heightBy(survey, t);
        }
    }

    private static final class Gauges {
        private final Waves waves;
        final int[] stations = new int[GAUGES];
        final int[] firsts = new int[GAUGES];
        final int[] steps = new int[GAUGES];
        final int[] many = new int[GAUGES];
        final boolean[] isOut = new boolean[GAUGES];
        final short[] shorts = new short[GAUGES * READINGS];
        final int[] airs = new int[GAUGES * READINGS];
        private final double[] bySize = new double[9];
        private int take = 5;
        private int fade = 12;
        int count;
        int absent;
        double surgeFound;

        Gauges(Waves waves) {
            this.waves = waves;
        }

        int addGauge(int station, int first, int step) {
            if (count >= GAUGES) return FULL;
            stations[count] = station;
            firsts[count] = first;
            steps[count] = step;
            return count++;
        }

        int nextMoment(int gauge) {
            return firsts[gauge] + many[gauge] * steps[gauge];
        }

        /** The caller has looked whether there is room. */
        int addReading(int gauge, int v, int air) {
            int r = gauge * READINGS + many[gauge];
            shorts[r] = (short) v;
            airs[r] = air;
            many[gauge]++;
            return many[gauge];
        }

        int faultAt(int gauge, int i) {
            if (isOut[gauge]) return NULL;
            return within(i, 0, many[gauge] - 1) ? 0 : INDEX;
        }

        int setTake(int v) {
            int was = take;
            take = v;
            return was;
        }

        int setFade(int v) {
            int was = fade;
            fade = v;
            return was;
        }

        int firstOf(int station) {
            for (int g = 0; g < count; g++) {
                if (stations[g] == station) return g;
            }
            return NONE;
        }

        /** NULL, LACK, or 0 with the SURGE in surgeFound; but for NULL absent tells how many were not there. */
        int reckonSurge(int gauge, int t, int now) {
            if (isOut[gauge]) return NULL;
            int end = readingsTill(gauge, t);
            int there = 0;
            int latest = 0;
            absent = 0;
            for (int i = Math.max(0, end - take); i < end; i++) {
                int v = shorts[gauge * READINGS + i];
                int moment = firsts[gauge] + i * steps[gauge];
                int survey = v == NO_SHORT ? NONE : waves.surveys.inForce(stations[gauge], moment, now);
                if (survey < 0) {
                    absent++;
                } else {
                    sortIn(there, v / 100.0 - waves.heightBy(survey, moment));
                    there++;
                    latest = moment;
                }
            }
            if (there == 0) return LACK;
            surgeFound = faded(bySize[(there - 1) / 2], t - latest);
            return 0;
        }

        private int readingsTill(int gauge, int t) {
            if (t < firsts[gauge] || steps[gauge] < 1) return 0;
            return Math.min(many[gauge], (t - firsts[gauge]) / steps[gauge] + 1);
        }

        private void sortIn(int there, double v) {
            int place = there;
            while (place > 0 && bySize[place - 1] > v) {
                bySize[place] = bySize[place - 1];
                place--;
            }
            bySize[place] = v;
        }

        private double faded(double middle, int age) {
            int span = fade * 3600;
            return age >= span ? 0.0 : middle * ((span - age) / (fade * 3600.0));
        }
    }

    private static final class Shoals {
        private final Waves waves;
        private final Gauges gauges;
        private final Tellings beds = new Tellings(SHOALS + DREDGINGS);
        private final int[] depths = new int[SHOALS + DREDGINGS];
        final int[] stations = new int[SHOALS];
        final int[] locks = new int[SHOALS];
        private final boolean[] isHeld = new boolean[SHOALS];
        int count;
        int heldNow;
        int heldAtMost;
        double level;

        Shoals(Waves waves, Gauges gauges) {
            this.waves = waves;
            this.gauges = gauges;
        }

        int addShoal(int station, int bed, int lock, int now) {
            if (count >= SHOALS) return FULL;
            depths[beds.add(count, 0, now)] = bed;
            stations[count] = station;
            locks[count] = lock;
            return count++;
        }

        int addDredging(int shoal, int day, int bed, int now) {
            if (dredgings() >= DREDGINGS) return FULL;
            depths[beds.add(shoal, day, now)] = bed;
            return dredgings();
        }

        int dredgings() {
            return beds.many - count;
        }

        /** NULL, or 0 with the DEPTH in level. */
        int reckonDepth(int shoal, int t, int k) {
            int bed = beds.inForce(shoal, t, k);
            if (bed < 0) return NULL;
            int survey = waves.surveys.inForce(stations[shoal], t, k);
            if (survey < 0) return NULL;
            level = depths[bed] / 100.0 + waves.heightBy(survey, t);
            return 0;
        }

        /** NULL, or 0 with the WATER in level. */
        int reckonWater(int shoal, int t, int now) {
            int fault = reckonDepth(shoal, t, now);
            if (fault != 0) return fault;
            int gauge = gauges.firstOf(stations[shoal]);
            if (gauge >= 0 && gauges.reckonSurge(gauge, t, now) == 0) level = level + gauges.surgeFound;
            return 0;
        }

        int hold(int shoal) {
            if (locks[shoal] == 0) return 0;
            if (isHeld[shoal]) return HELD;
            isHeld[shoal] = true;
            heldNow++;
            heldAtMost = Math.max(heldAtMost, heldNow);
            return 0;
        }

        void freeAll() {
            for (int s = 0; s < count; s++) {
                isHeld[s] = false;
            }
            heldNow = 0;
        }
    }

    private static final class Tides {
        private final Waves waves;
        private final double[] samples = new double[SAMPLES];
        final int[] many = new int[STATIONS];
        final int[] moments = new int[STATIONS * WATERS_KEPT];
        final boolean[] isHigh = new boolean[STATIONS * WATERS_KEPT];
        private final double[] heights = new double[STATIONS * WATERS_KEPT];
        final int[] streams = new int[STATIONS * HOURS];
        private int steps = 10;
        int streamFound;

        Tides(Waves waves) {
            this.waves = waves;
        }

        int setSteps(int v) {
            int was = steps;
            steps = v;
            return was;
        }

        int stepSeconds() {
            return 60 * steps;
        }

        /** Whether there is a HEIGHT at each of the MOMENTS. */
        boolean sample(int station, int from, int n, int now) {
            for (int i = 0; i < n; i++) {
                int t = from + i * stepSeconds();
                int survey = waves.surveys.inForce(station, t, now);
                if (survey < 0) return false;
                samples[i] = waves.heightBy(survey, t);
            }
            return true;
        }

        /** To be called behind sample(), with the same numbers. */
        int keepWaters(int station, int from, int n, int now) {
            many[station] = 0;
            for (int i = 1; i < n - 1 && many[station] < WATERS_KEPT; i++) {
                double h = samples[i];
                boolean high = h > samples[i - 1] && h >= samples[i + 1];
                boolean low = h < samples[i - 1] && h <= samples[i + 1];
                if (high || low) keepWater(station, from + i * stepSeconds(), high, now);
            }
            return many[station];
        }

        private void keepWater(int station, int t, boolean high, int now) {
            int w = station * WATERS_KEPT + many[station];
            moments[w] = halve(station, t, high, now);
            isHigh[w] = high;
            heights[w] = waves.heightAt(station, moments[w], now);
            many[station]++;
        }

        private int halve(int station, int t, boolean isHighWater, int now) {
            int low = t - stepSeconds();
            int high = t + stepSeconds();
            for (int turn = 0; turn < 40 && high - low > 1; turn++) {
                int m = (low + high) / 2;
                double here = waves.heightAt(station, m, now);
                double next = waves.heightAt(station, m + 1, now);
                boolean isAhead = isHighWater ? next > here : next < here;
                if (isAhead) {
                    low = m;
                } else {
                    high = m;
                }
            }
            return high;
        }

        boolean hasRange(int w) {
            return isHigh[w] != isHigh[w + 1];
        }

        double rangeOf(int w) {
            double a = heights[w];
            double b = heights[w + 1];
            return a > b ? a - b : b - a;
        }

        int extremeRange(int station, boolean great) {
            int best = NONE;
            double most = 0.0;
            for (int i = 0; i < many[station] - 1; i++) {
                int w = station * WATERS_KEPT + i;
                if (!hasRange(w)) continue;
                double range = rangeOf(w);
                if (best < 0 || (great ? range > most : range < most)) {
                    best = i;
                    most = range;
                }
            }
            return best;
        }

        /** LACK, INDEX, or 0 with the BITS of the STREAM in streamFound. */
        int seekStream(int station, int t) {
            int w = nearestHigh(station, t);
            if (w < 0) return LACK;
            int hour = Math.floorDiv(t - moments[w] + 1800, 3600);
            if (!within(hour, -HOURS_BEFORE, HOURS_BEFORE)) return INDEX;
            streamFound = streams[station * HOURS + hour + HOURS_BEFORE];
            return 0;
        }

        private int nearestHigh(int station, int t) {
            int best = NONE;
            int least = 0;
            int first = station * WATERS_KEPT;
            for (int w = first; w < first + many[station]; w++) {
                int far = Math.abs(t - moments[w]);
                if (isHigh[w] && (best < 0 || far < least)) {
                    best = w;
                    least = far;
                }
            }
            return best;
        }
    }

    private static final class Ships {
        private final int[] kinds = new int[SHIPS];
        private final int[] draughts = new int[SHIPS];
        private final int[] paces = new int[SHIPS];
        final int[] xs = new int[SHIPS];
        private final int[] firsts = new int[SHIPS];
        private final int[] seconds = new int[SHIPS];
        private final int[] levels = new int[SHIPS];
        final int[] bodies = new int[TRACE_LENGTH];
        int traced;
        int count;
        private int fault;

        int addShip(int kind, int draught, int pace, int x) {
            if (count >= SHIPS) return FULL;
            kinds[count] = kind;
            draughts[count] = draught;
            paces[count] = pace;
            xs[count] = x;
            return count++;
        }

        void bindPair(int pair, int first, int second, int level) {
            firsts[pair] = first;
            seconds[pair] = second;
            levels[pair] = level;
        }

        /** How many PAIRS would be one in the other in a PAIR of these PARTS. */
        int pairLevel(int p, int q) {
            int first = p < 0 ? 0 : levels[p];
            int second = q < 0 ? 0 : levels[q];
            return 1 + Math.max(first, second);
        }

        boolean isOf(int ship, int kind) {
            if (kinds[ship] == kind) return true;
            return (kind == DEEP && kinds[ship] == TOW) || (kind == LIGHT && kinds[ship] == FERRY);
        }

        void emptyTrace() {
            traced = 0;
        }

        /** What came against the asks since it was taken last; 0. */
        int takeFault() {
            int was = fault;
            fault = 0;
            return was;
        }

        /**
         * An ask. Behind a fault nothing more is asked until it is taken, so that asks may stand one behind the other.
         * PAIRS are asked one in the other no deeper than pairLevel() lets them be told.
         */
        int answer(int ship, int what) {
            if (ship < 0 && fault == 0) fault = NULL;
            if (fault != 0) return 0;
            if (kinds[ship] == PAIR && what != KEEL) return answerOfPair(ship, what);
            switch (what) {
                case NEED: return needOf(ship);
                case KEEL: return keelOf(ship);
                case PACE: return paceOf(ship);
                case PATIENCE: return patienceOf(ship);
                default: return byDayOf(ship);
            }
        }

        private int answerOfPair(int pair, int what) {
            begin(PAIR_BODIES[what]);
            int first = answer(firsts[pair], what);
            if (what == BY_DAY && first != 0) return first;
            int second = answer(seconds[pair], what);
            switch (what) {
                case NEED: return Math.max(first, second);
                case PACE: return Math.min(first, second);
                case PATIENCE: return (first + second) / 2;
                default: return second;
            }
        }

        private int needOf(int ship) {
            boolean isDeep = isOf(ship, DEEP);
            if (isDeep) begin(11);
            begin(10);
            int need = draughts[ship] + keelOf(ship);
            return isDeep ? need + draughts[ship] / 10 : need;
        }

        private int keelOf(int ship) {
            switch (kinds[ship]) {
                case TOW:
                    begin(22);
                    begin(21);
                    return 100 + xs[ship];
                case DEEP:
                    begin(21);
                    return 100;
                case FERRY:
                    begin(23);
                    begin(20);
                    return 2 * 30;
                default:
                    begin(20);
                    return 30;
            }
        }

        private int paceOf(int ship) {
            if (kinds[ship] != TOW) {
                begin(30);
                return paces[ship];
            }
            begin(31);
            begin(30);
            if (xs[ship] == 0) {
                fault = ZERO;
                return 0;
            }
            return paces[ship] / xs[ship];
        }

        private int patienceOf(int ship) {
            if (!isOf(ship, LIGHT)) {
                begin(40);
                return 60;
            }
            if (kinds[ship] != FERRY) {
                begin(41);
                return 30;
            }
            begin(42);
            begin(41);
            return 30 - xs[ship];
        }

        private int byDayOf(int ship) {
            boolean isTow = kinds[ship] == TOW;
            begin(isTow ? 51 : 50);
            return isTow ? 1 : 0;
        }

        private void begin(int body) {
            if (traced >= TRACE_LENGTH) return;
            bodies[traced] = body;
            traced++;
        }
    }

    private static final class Fleets {
        private final Ships ships;
        private final int[] sorts = new int[FLEETS];
        // Below 0: the FLEET is NOTHING.
        final int[] lengths = {NONE, NONE, NONE, NONE};
        final int[] places = new int[FLEETS * PLACES];
        private final int[] moved = new int[PLACES];

        Fleets(Ships ships) {
            this.ships = ships;
        }

        void make(int f, int sort, int n) {
            sorts[f] = sort;
            lengths[f] = n;
            for (int i = 0; i < n; i++) {
                places[f * PLACES + i] = NONE;
            }
        }

        /** NULL, INDEX, or 0: n places from i on are there. */
        int faultAt(int f, int i, int n) {
            if (lengths[f] < 0) return NULL;
            // i + n could wrap; this difference cannot.
            return i < 0 || n < 0 || i > lengths[f] - n ? INDEX : 0;
        }

        boolean takes(int f, int ship) {
            return ship < 0 || sorts[f] == ANY_KIND || ships.isOf(ship, sorts[f]);
        }

        /** False at the first SHIP that does not go, those ahead of it having come. The places have been looked at. */
        boolean copyPlaces(int from, int other, int j, int n) {
            System.arraycopy(places, from, moved, 0, n);
            for (int i = 0; i < n; i++) {
                if (!takes(other, moved[i])) return false;
                places[other * PLACES + j + i] = moved[i];
            }
            return true;
        }

        int standing(int f) {
            int many = 0;
            for (int i = 0; i < lengths[f]; i++) {
                if (places[f * PLACES + i] >= 0) many++;
            }
            return many;
        }
    }

    private static final class Routes {
        final int[] legs = new int[ROUTES];
        final int[] shoalOf = new int[ROUTES * LEGS];
        private final int[] distances = new int[ROUTES * LEGS];
        final int[] marks = new int[ROUTES * LEGS];
        int rise = 21600;
        int set = 64800;

        int lastDistance(int route) {
            return legs[route] == 0 ? 0 : distances[route * LEGS + legs[route] - 1];
        }

        int addLeg(int route, int shoal, int distance, int mark) {
            if (legs[route] >= LEGS) return FULL;
            int leg = route * LEGS + legs[route];
            shoalOf[leg] = shoal;
            distances[leg] = distance;
            marks[leg] = mark;
            legs[route]++;
            return legs[route];
        }

        /** The MOMENT at which one that starts at s comes to a LEG; NO. */
        int arrival(int leg, int s, int pace) {
            if (pace < 1) return NO;
            int u = s + distances[leg] * 100 / pace;
            return isMoment(u) ? u : NO;
        }

        boolean isSunUp(int u) {
            int second = u % DAY;
            return second >= rise && second < set;
        }
    }

    /** The WINDOWS, as found latest, and what was wrong with their minutes. */
    private static final class Runs {
        final int[] firsts = new int[WINDOWS_KEPT];
        final int[] lasts = new int[WINDOWS_KEPT];
        int many;
        int wrongs;
        int lastWrong;
        private boolean isOpen;

        void empty() {
            many = 0;
            wrongs = 0;
            lastWrong = 0;
            isOpen = false;
        }

        /** The minutes come one behind the other, each with what minuteHolds() answers. */
        void note(int minute, int holds) {
            if (isFindingAnswer(holds)) {
                wrongs++;
                lastWrong = -10 - holds;
            }
            if (holds != 1) {
                isOpen = false;
            } else if (isOpen) {
                lasts[many - 1] = minute;
            } else if (many < WINDOWS_KEPT) {
                firsts[many] = minute;
                lasts[many] = minute;
                many++;
                isOpen = true;
            }
        }
    }

    private static final class Passages {
        private final Routes ways;
        private final Shoals shoals;
        final int[] ships = new int[PASSAGES];
        final int[] routes = new int[PASSAGES];
        final int[] minutes = new int[PASSAGES];
        final int[] since = new int[PASSAGES];
        final int[] starts = new int[PASSAGES];
        final boolean[] waits = new boolean[PASSAGES];
        // When those that have a start come to their LEGS: nothing is asked of them again.
        private final int[] arrivals = new int[PASSAGES * LEGS];
        int count;

        Passages(Routes ways, Shoals shoals) {
            this.ways = ways;
            this.shoals = shoals;
        }

        int addPassage(int ship, int route, int minute, int now) {
            if (count >= PASSAGES) return FULL;
            ships[count] = ship;
            routes[count] = route;
            minutes[count] = minute;
            letWait(count, now);
            return count++;
        }

        void letWait(int p, int now) {
            waits[p] = true;
            since[p] = now;
            starts[p] = NONE;
        }

        void setStart(int p, int minute, int[] comings) {
            starts[p] = minute;
            System.arraycopy(comings, 0, arrivals, p * LEGS, LEGS);
        }

        boolean useRoute(int route) {
            for (int p = 0; p < count; p++) {
                if (routes[p] == route && starts[p] >= 0) return true;
            }
            return false;
        }

        int longestWaiting() {
            int best = NONE;
            for (int p = 0; p < count; p++) {
                if (waits[p] && (best < 0 || since[p] < since[best])) best = p;
            }
            return best;
        }

        /** Whether one that comes to the LEGS of a ROUTE so would be together with one that has a start. */
        boolean clashes(int route, int[] comings) {
            for (int p = 0; p < count; p++) {
                if (starts[p] < 0) continue;
                for (int i = 0; i < ways.legs[route]; i++) {
                    if (clashesAt(route, comings, i, p)) return true;
                }
            }
            return false;
        }

        private boolean clashesAt(int route, int[] comings, int i, int p) {
            int a = route * LEGS + i;
            boolean hasReach = i + 1 < ways.legs[route];
            int otherLegs = ways.legs[routes[p]];
            for (int j = 0; j < otherLegs; j++) {
                int b = routes[p] * LEGS + j;
                int come = arrivals[p * LEGS + j];
                int lock = shoals.locks[ways.shoalOf[a]];
                boolean inOneLock = lock != 0 && ways.shoalOf[a] == ways.shoalOf[b];
                if (inOneLock && overlap(comings[i], comings[i] + lock, come, come + lock)) return true;
                boolean inOneReach = hasReach && j + 1 < otherLegs && isSameReach(a, b);
                if (inOneReach && overlap(comings[i], comings[i + 1], come, arrivals[p * LEGS + j + 1])) return true;
            }
            return false;
        }

        private boolean isSameReach(int a, int b) {
            int[] s = ways.shoalOf;
            return (s[a] == s[b] && s[a + 1] == s[b + 1]) || (s[a] == s[b + 1] && s[a + 1] == s[b]);
        }

        private static boolean overlap(int begin, int end, int otherBegin, int otherEnd) {
            return begin < otherEnd && otherBegin < end;
        }
    }
}
