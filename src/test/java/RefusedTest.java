import java.util.function.Consumer;
import java.util.function.ToLongFunction;

/** Terms: "What is refused changes nothing but finding(), THE TRACE, tries(), and as told." Each refusal of each call. */
public final class RefusedTest {
    private static final Due due = new Due("RefusedTest");
    private static final Twins full = new Twins(due, Full::make);
    private static final int MIN = Due.MIN, MAX = Due.MAX, BAD = Due.BAD, NO = Due.NO, FULL = Due.FULL, NONE = Due.NONE;

    public static void main(String[] args) {
        clockAndWaves();
        wavesFull();
        gauges();
        gaugesFull();
        shoals();
        waters();
        ships();
        shipsFull();
        fleets();
        routes();
        comesAndHolds();
        passages();
        passes();
        noneSuch();
        readingsChangeNothing();
        due.end();
    }

    private static void refuse(String call, long answer, ToLongFunction<TideDesk> act) {
        full.refuse(call, answer, Twins.nothing(), act);
    }

    private static void find(String call, long answer, int finding, ToLongFunction<TideDesk> act) {
        full.refuse(call, answer, Twins.found(finding), act);
    }

    private static Twins behind(Consumer<TideDesk> more) {
        return new Twins(due, () -> {
            TideDesk d = Full.make();
            more.accept(d);
            return d;
        });
    }

    private static void clockAndWaves() {
        for (int t : new int[] {Full.NOW - 1, 0, -1, 2592000, MIN, MAX}) refuse("clock " + t, BAD, d -> d.clock(t));
        for (int s : new int[] {-1, 12, MIN, MAX}) {
            refuse("mean of " + s, -100000, d -> d.mean(s, 1));
            refuse("wave of " + s, BAD, d -> d.wave(s, 1, 1, 1));
            refuse("survey of " + s, BAD, d -> d.survey(s, 1));
        }
        for (int v : new int[] {-2001, 2001}) refuse("mean " + v, -100000, d -> d.mean(0, v));
        refuse("SIZE", BAD, d -> d.wave(0, 10000, 1, 1));
        refuse("SPEED", BAD, d -> d.wave(0, 1, 60001, 1));
        refuse("PHASE", BAD, d -> d.wave(0, 1, 1, 65536));
        for (int day : new int[] {-1, 30}) refuse("survey from " + day, BAD, d -> d.survey(0, day));
        refuse("height", Due.NO_REAL, d -> d.height(0, 0, Full.NOW + 1));
        refuse("force", BAD, d -> d.force(0, 2592000, 0));
        find("height NULL", Due.NO_REAL, 1, d -> d.height(2, 0, 0));
        find("force NULL", Due.NULL, 1, d -> d.force(2, 0, 0));
    }

    private static void wavesFull() {
        behind(d -> {
            for (int i = 2; i < 8; i++) d.wave(0, i, i, i);
        }).refuse("a 9th WAVE", FULL, Twins.nothing(), d -> d.wave(0, 1, 1, 1));
        behind(d -> {
            while (d.count(1) < 60) d.survey(3, 0);
        }).refuse("a 61st SURVEY", FULL, Twins.nothing(), d -> d.survey(0, 1));
    }

    private static void gauges() {
        refuse("gauge at", BAD, d -> d.gauge(12, 0, 60));
        refuse("gauge from", BAD, d -> d.gauge(0, -1, 60));
        refuse("gauge STEP", BAD, d -> d.gauge(0, 0, 59));
        refuse("reading of", BAD, d -> d.reading(4, 0, 0));
        refuse("reading below", BAD, d -> d.reading(Full.THREE, -32769, 0));
        refuse("reading above", BAD, d -> d.reading(Full.THREE, 32768, 0));
        refuse("reading above NOW", NO, d -> d.reading(Full.ONE, 0, 0));
        find("reading, OUT", Due.NULL, 1, d -> d.reading(Full.OUT, 0, 0));
        refuse("out", BAD, d -> d.out(4, true));
        refuse("it was OUT", 0, d -> d.out(Full.OUT, true));
        refuse("it was in", 0, d -> d.out(Full.THREE, false));
        refuse("at", -100000, d -> d.at(-1, 0));
        find("at, OUT", -100001, 1, d -> d.at(Full.OUT, 0));
        find("at, not yet", -100002, 2, d -> d.at(Full.THREE, 3));
        refuse("air", Due.NO_FLOAT, d -> d.air(4, 0));
        find("air, OUT", Due.NO_FLOAT, 1, d -> d.air(Full.OUT, 0));
        find("air, not yet", Due.NO_FLOAT, 2, d -> d.air(Full.THREE, -1));
        refuse("compare", BAD, d -> d.compare(4, 0, 0));
        find("compare, OUT", Due.NULL, 1, d -> d.compare(Full.OUT, 0, 0));
        find("compare, the first", Due.INDEX, 2, d -> d.compare(Full.THREE, 3, 0));
        find("compare, the second", Due.INDEX, 2, d -> d.compare(Full.THREE, 0, 3));
        for (int what = -1; what < 4; what++) {
            int which = what;
            for (int v : new int[] {0, 61}) refuse("rule " + what, BAD, d -> d.rule(which, v));
        }
        refuse("surge", Due.NO_REAL, d -> d.surge(Full.THREE, -1));
        find("surge, OUT", Due.NO_REAL, 1, d -> d.surge(Full.OUT, 0));
        full.refuse("surge LACK", Due.NO_REAL, Twins.found(7).lacking(1), d -> d.surge(Full.BLIND, 0));
        full.refuse("surge of none", Due.NO_REAL, Twins.found(7).lacking(0), d -> d.surge(Full.ONE, 0));
    }

    private static void gaugesFull() {
        behind(d -> {
            while (d.count(2) < 10) d.gauge(3, 0, 60);
        }).refuse("an 11th GAUGE", FULL, Twins.nothing(), d -> d.gauge(1, 0, 60));
        Consumer<TideDesk> readAll = d -> {
            for (int i = 3; i < 120; i++) d.reading(Full.THREE, i, i);
        };
        behind(readAll).refuse("a 121st READING", FULL, Twins.nothing(), d -> d.reading(Full.THREE, 1, 1));
        behind(readAll.andThen(d -> d.out(Full.THREE, true))).refuse("a 121st READING, OUT", FULL, Twins.nothing(),
            d -> d.reading(Full.THREE, 1, 1));
    }

    private static void shoals() {
        refuse("shoal at", BAD, d -> d.shoal(-1, 0, 0));
        for (int bed : new int[] {-1001, 5001}) {
            refuse("shoal BED " + bed, BAD, d -> d.shoal(0, bed, 0));
            refuse("dredge BED " + bed, BAD, d -> d.dredge(0, 0, bed));
        }
        for (int lock : new int[] {-1, 7201}) refuse("LOCK " + lock, BAD, d -> d.shoal(0, 0, lock));
        refuse("dredge of", BAD, d -> d.dredge(4, 0, 0));
        for (int day : new int[] {-1, 30}) refuse("dredge from " + day, BAD, d -> d.dredge(0, day, 0));
        behind(d -> {
            while (d.count(3) < 16) d.shoal(3, 0, 0);
        }).refuse("a 17th SHOAL", FULL, Twins.nothing(), d -> d.shoal(0, 1, 1));
        behind(d -> {
            while (d.count(4) < 60) d.dredge(Full.UNKNOWN, 0, 0);
        }).refuse("a 61st DREDGING", FULL, Twins.nothing(), d -> d.dredge(0, 0, 1));
        refuse("depth", Due.NO_REAL, d -> d.depth(4, 0, 0));
        refuse("water", Due.NO_REAL, d -> d.water(4, 0));
        find("depth, not KNOWN", Due.NO_REAL, 1, d -> d.depth(0, 0, Full.NOW - 1));
        find("depth, no SURVEY", Due.NO_REAL, 1, d -> d.depth(Full.UNKNOWN, 0, Full.NOW));
        find("water, no SURVEY", Due.NO_REAL, 1, d -> d.water(Full.UNKNOWN, 0));
    }

    private static void waters() {
        refuse("waters of", BAD, d -> d.waters(12, 0, 3));
        for (int n : new int[] {MIN, -1, 0, 2, 201, MAX}) refuse("waters n " + n, BAD, d -> d.waters(0, 0, n));
        for (int from : new int[] {MIN, -1, 2592000, MAX}) refuse("waters from " + from, BAD, d -> d.waters(0, from, 3));
        refuse("waters till", BAD, d -> d.waters(0, 2592000 - 2 * 1200, 3));
        find("waters NULL", Due.NULL, 1, d -> d.waters(2, 0, 3));
        behind(d -> {
            d.wave(2, 1000, 1024, 0);
            d.survey(2, 1);
            d.waters(2, 86400, 100);
        }).refuse("WATERS of before stay", Due.NULL, Twins.found(1), d -> d.waters(2, 86399, 100));
        refuse("range", Due.NO_REAL, d -> d.range(0, 99));
        refuse("spring", BAD, d -> d.spring(12, true));
        find("stream INDEX", Due.NO_FLOAT, 2, d -> d.stream(0, 2591999));
        find("stream LACK", Due.NO_FLOAT, 7, d -> d.stream(1, 0));
        refuse("stream", Due.NO_FLOAT, d -> d.stream(0, 2592000));
        for (int hour : new int[] {-7, 7}) refuse("tide " + hour, BAD, d -> d.tide(0, hour, 0));
        for (float v : new float[] {20.000002f, -20.000002f, Float.NaN, Float.POSITIVE_INFINITY, Float.NEGATIVE_INFINITY}) {
            refuse("tide of " + v, BAD, d -> d.tide(0, 0, Due.bits(v)));
        }
        refuse("tide at", BAD, d -> d.tide(-1, 0, 0));
        behind(d -> {
            d.wave(2, 1000, 1, 65533);
            d.survey(2, 0);
            d.rule(2, 1);
            d.waters(2, 0, 70);
        }).refuse("range LACK", Due.NO_REAL, Twins.found(7), d -> d.range(2, 0));
    }

    private static void ships() {
        refuse("KIND", BAD, d -> d.ship(5, 0, 0, 0, 0, 0));
        refuse("DRAUGHT", BAD, d -> d.ship(0, 3001, 0, 0, 0, 0));
        refuse("PACE", BAD, d -> d.ship(0, 0, 3001, 0, 0, 0));
        refuse("x", BAD, d -> d.ship(0, 0, 0, 1001, 0, 0));
        refuse("PART", BAD, d -> d.ship(4, 0, 0, 0, 9, 0));
        refuse("the other PART", BAD, d -> d.ship(4, 0, 0, 0, 0, 9));
        refuse("ask of", BAD, d -> d.ask(9, 0));
        for (int what : new int[] {-1, 5}) refuse("ask " + what, BAD, d -> d.ask(0, what));
        full.refuse("ask NULL", Due.NULL, Twins.found(1).trace(12, 10, 23, 20), d -> d.ask(Full.HALF_PAIR, 0));
        full.refuse("ask ZERO", Due.ZERO, Twins.found(4).trace(31, 30), d -> d.ask(Full.ZERO_TOW, 2));
        refuse("as of", BAD, d -> d.as(9, 0));
        refuse("as KIND", BAD, d -> d.as(0, 5));
        find("as CAST", Due.CAST, 3, d -> d.as(0, 2));
        find("as NULL", Due.NULL, 1, d -> d.as(NONE, 2));
    }

    private static void shipsFull() {
        behind(d -> {
            d.ship(4, 0, 0, 0, Full.PAIR_OF_PAIRS, 0);
            d.ship(4, 0, 0, 0, 9, 0);
        }).refuse("a 5th PAIR", NO, Twins.nothing(), d -> d.ship(4, 1, 1, 1, 10, 0));
        behind(d -> {
            while (d.count(5) < 40) d.ship(0, 0, 0, 0, 0, 0);
        }).refuse("a 41st SHIP", FULL, Twins.nothing(), d -> d.ship(4, 1, 1, 1, 0, 0));
    }

    private static void fleets() {
        refuse("fleet", BAD, d -> d.fleet(4, 0, 1));
        refuse("SORT", BAD, d -> d.fleet(0, 6, 1));
        refuse("n", BAD, d -> d.fleet(0, 5, 9));
        find("SIZE", Due.SIZE, 5, d -> d.fleet(0, 0, -1));
        find("SIZE of NOTHING", Due.SIZE, 5, d -> d.fleet(3, 0, MIN));
        refuse("join", BAD, d -> d.join(-1, 0, 0));
        refuse("join a SHIP", BAD, d -> d.join(0, 0, 9));
        find("join NULL", Due.NULL, 1, d -> d.join(3, 0, 0));
        find("join INDEX", Due.INDEX, 2, d -> d.join(0, 3, 0));
        find("join STORE", Due.STORE, 6, d -> d.join(1, 1, 1));
        refuse("member", BAD, d -> d.member(4, 0));
        find("member NULL", Due.NULL, 1, d -> d.member(3, 0));
        find("member INDEX", Due.INDEX, 2, d -> d.member(2, 0));
        refuse("move", BAD, d -> d.move(0, 0, 4, 0, 1));
        find("move NULL, from", Due.NULL, 1, d -> d.move(3, 0, 0, 0, 1));
        find("move NULL, to", Due.NULL, 1, d -> d.move(0, 0, 3, 0, 1));
        find("move INDEX", Due.INDEX, 2, d -> d.move(0, 1, 0, 0, 3));
        find("move INDEX, though some would go", Due.INDEX, 2, d -> d.move(0, 1, 1, 1, 2));
        find("move STORE of the first", Due.STORE, 6, d -> d.move(0, 0, 1, 0, 2));
        refuse("shared", BAD, d -> d.shared(0, 1000001));
        find("shared NULL", Due.NULL, 1, d -> d.shared(3, 1));
        find("shared ZERO", Due.ZERO, 4, d -> d.shared(2, 1));
    }

    private static void routes() {
        refuse("leg of", BAD, d -> d.leg(6, 0, 0, Full.NO_MARK));
        refuse("leg over", BAD, d -> d.leg(Full.EMPTY, 4, 0, Full.NO_MARK));
        refuse("DISTANCE", BAD, d -> d.leg(Full.MARKED, 0, 9, Full.NO_MARK));
        refuse("DISTANCE", BAD, d -> d.leg(Full.MARKED, 0, 50001, Full.NO_MARK));
        refuse("MARK", BAD, d -> d.leg(Full.EMPTY, 0, 0, Due.bits(-1.0f)));
        refuse("leg, a start", NO, d -> d.leg(Full.USED, 0, 50000, Full.NO_MARK));
        refuse("a 5th LEG", FULL, d -> d.leg(Full.LONG, 0, 50000, Full.NO_MARK));
        refuse("clear", BAD, d -> d.clear(6));
        refuse("clear, a start", NO, d -> d.clear(Full.USED));
        refuse("RISE", BAD, d -> d.sun(86401, 1));
        refuse("SET", BAD, d -> d.sun(1, 86401));
        refuse("RISE", BAD, d -> d.sun(-1, 1));
        refuse("SET", BAD, d -> d.sun(1, -1));
        for (int n : new int[] {0, 121}) refuse("windows n " + n, BAD, d -> d.windows(1, Full.USED, 0, n));
        for (int a : new int[] {-1, 43200}) refuse("windows from " + a, BAD, d -> d.windows(1, Full.USED, a, 1));
        refuse("windows till", BAD, d -> d.windows(1, Full.USED, 43199, 2));
        refuse("windows of", BAD, d -> d.windows(9, Full.USED, 0, 1));
        refuse("windows on", BAD, d -> d.windows(1, 6, 0, 1));
        for (int what : new int[] {-1, 2}) refuse("wrong " + what, BAD, d -> d.wrong(what));
    }

    private static void comesAndHolds() {
        refuse("comes of", BAD, d -> d.comes(9, Full.USED, 0, 0));
        refuse("comes on", BAD, d -> d.comes(0, 6, 0, 0));
        refuse("comes to", BAD, d -> d.comes(0, Full.USED, 2, 0));
        refuse("comes from", BAD, d -> d.comes(0, Full.USED, 0, 2592000));
        full.refuse("comes ZERO", Due.ZERO, Twins.found(4).trace(31, 30), d -> d.comes(Full.ZERO_TOW, Full.USED, 0, 0));
        full.refuse("comes NULL", Due.NULL, Twins.found(1).trace(32, 30), d -> d.comes(Full.HALF_PAIR, Full.USED, 0, 0));
        full.refuse("comes NO", NO, Twins.nothing().trace(30), d -> d.comes(Full.STILL, Full.USED, 0, 0));
        full.refuse("comes beyond", NO, Twins.nothing().trace(30), d -> d.comes(1, Full.USED, 1, 2591999));
        refuse("holds of", BAD, d -> d.holds(-1, Full.USED, 0));
        refuse("holds on", BAD, d -> d.holds(0, -1, 0));
        refuse("holds at", BAD, d -> d.holds(0, Full.USED, 43200));
        full.refuse("holds ZERO", Due.ZERO, Twins.found(4).trace(11, 10, 22, 21, 31, 30),
            d -> d.holds(Full.ZERO_TOW, Full.USED, 0));
        full.refuse("holds NULL", Due.NULL, Twins.found(1).trace(10, 20, 30, 50), d -> d.holds(1, Full.LOST, 0));
        full.refuse("holds INDEX", Due.INDEX, Twins.found(2).trace(10, 20, 30, 50), d -> d.holds(1, Full.MARKED, 43000));
        full.refuse("holds NO", NO, Twins.nothing().trace(10, 20, 30, 50), d -> d.holds(Full.STILL, Full.USED, 0));
        behind(d -> {
            d.shoal(1, 0, 0);
            d.leg(Full.EMPTY, 4, 0, 0);
        }).refuse("holds LACK", Due.LACK, Twins.found(7).trace(10, 20, 30, 50), d -> d.holds(1, Full.EMPTY, 0));
    }

    private static void passages() {
        refuse("passage of", BAD, d -> d.passage(9, 0, 0));
        refuse("passage on", BAD, d -> d.passage(0, 6, 0));
        refuse("passage from", BAD, d -> d.passage(0, 0, 43200));
        behind(d -> {
            while (d.count(6) < 40) d.passage(1, Full.EMPTY, 0);
        }).refuse("a 41st PASSAGE", FULL, Twins.nothing(), d -> d.passage(1, Full.USED, 0));
        refuse("planned of", BAD, d -> d.planned(8, 0));
        refuse("planned", BAD, d -> d.planned(0, 3));
        refuse("again of", BAD, d -> d.again(8));
        behind(d -> d.clock(Full.NOW + 9)).refuse("again, it WAITS", NO, Twins.nothing(), d -> d.again(3));
    }

    private static void passes() {
        for (int p : new int[] {-1, 8, MIN, MAX}) refuse("pass of " + p, BAD, d -> d.pass(p));
        full.refuse("pass HELD", Due.HELD, Twins.found(8).trace(11, 10, 21).aTry(2), d -> d.pass(3));
        full.refuse("pass ZERO", Due.ZERO, Twins.found(4).trace(11, 10, 22, 21, 31, 30).aTry(1), d -> {
            d.clear(Full.LONG);
            d.leg(Full.LONG, Full.LOCKED, 0, Full.NO_MARK);
            long answer = d.pass(4);
            d.clear(Full.LONG);
            for (int i = 0; i < 4; i++) d.leg(Full.LONG, i % 3, 100 * i, Full.NO_MARK);
            return answer;
        });
        full.refuse("pass NULL", Due.NULL, Twins.found(1).trace(12, 10, 23, 20).aTry(0), d -> d.pass(5));
        for (int what : new int[] {-1, 2}) refuse("held " + what, BAD, d -> d.held(what));
        for (int what : new int[] {-1, 9}) refuse("count " + what, BAD, d -> d.count(what));
    }

    private static void noneSuch() {
        refuse("found of", BAD, d -> d.found(12, 0, 0));
        refuse("found what", BAD, d -> d.found(0, 0, 2));
        refuse("found none", NONE, d -> d.found(0, 40, 0));
        refuse("no spring", NONE, d -> d.spring(1, true));
        refuse("no window", NONE, d -> d.window(20, true));
        refuse("no trace", NONE, d -> d.trace(100));
    }

    /** Calls that ask and are not refused change nothing either. */
    private static void readingsChangeNothing() {
        refuse("cos", Due.real(1.0), d -> d.cos(65536));
        refuse("force", 1, d -> d.force(0, 86400, Full.NOW));
        refuse("at", 410, d -> d.at(Full.THREE, 0));
        refuse("air", 390, d -> d.air(Full.THREE, 2));
        refuse("compare", 26, d -> d.compare(Full.THREE, 0, 0));
        refuse("member", 3, d -> d.member(0, 0));
        refuse("water's SURGE", Due.real(-0.5 + 10.0), d -> d.water(Full.OPEN, 0));
        full.refuse("comes", 120, Twins.nothing().trace(30), d -> d.comes(1, Full.USED, 1, 0));
        full.refuse("holds", 1, Twins.nothing().trace(10, 20, 30, 50), d -> d.holds(1, Full.USED, 0));
    }
}
