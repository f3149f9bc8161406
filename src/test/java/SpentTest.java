import java.util.function.ToLongFunction;

/** Terms: "3000 FINDINGS may come ever": each call ahead of the 3000th, by which it comes, and behind it. */
public final class SpentTest {
    private static final Due due = new Due("SpentTest");
    private static final int BAD = Due.BAD, FULL = Due.FULL, NO_FLOAT = Due.NO_FLOAT, NOW = Full.NOW;
    private static final long NO_REAL = Due.NO_REAL;

    public static void main(String[] args) {
        reals();
        floatsAndHundredths();
        gaugesAndWaters();
        shipsAndFleets();
        routesAndPassages();
        findingsOfMinutes();
        findingsOfPlans();
        behindNo();
        othersGoOn();
        everyFinding();
        everyBad();
        due.end();
    }

    /** A desk of everything on which that many FINDINGS have come. */
    private static TideDesk spent(int findings) {
        TideDesk d = Full.make();
        while (d.count(8) <= findings - 120) d.windows(Full.HALF_PAIR, Full.EMPTY, 0, 120);
        if (d.count(8) < findings) d.windows(Full.HALF_PAIR, Full.EMPTY, 0, findings - d.count(8));
        return d;
    }

    /** One that goes, and one that has a FINDING: both at 2999, and both FULL at 3000. */
    private static void call(String name, long goes, ToLongFunction<TideDesk> going, long finds, ToLongFunction<TideDesk> finding,
            long full) {
        TideDesk d = spent(2999);
        due.is("FINDINGS", d.count(8), 2999);
        due.is(name + " at 2999", going.applyAsLong(d), goes);
        due.is(name + " that finds, at 2999", finding.applyAsLong(spent(2999)), finds);
        due.is(name + " that finds, at 2999, too", finding.applyAsLong(d), finds);
        due.is("FINDINGS", d.count(8), 3000);
        due.is(name + " at 3000", going.applyAsLong(d), full);
        due.is(name + " that would find, at 3000", finding.applyAsLong(d), full);
        new Twins(due, () -> spent(3000)).refuse(name + " at 3000", full, Twins.nothing(), going);
        new Twins(due, () -> spent(3001)).refuse(name + " at 3001", full, Twins.nothing(), finding);
    }

    private static void bad(String name, long answer, ToLongFunction<TideDesk> act) {
        TideDesk d = spent(3000);
        due.is(name + " is BAD ahead of FULL", act.applyAsLong(d), answer);
        due.is("FINDINGS", d.count(8), 3000);
    }

    private static void reals() {
        call("height", Due.real(10.0), d -> d.height(1, 0, NOW), NO_REAL, d -> d.height(2, 0, NOW), NO_REAL);
        call("surge", Due.real(11.11 - 10.0), d -> d.surge(Full.ONE, NOW - 30), NO_REAL, d -> d.surge(Full.OUT, 0), NO_REAL);
        call("depth", Due.real(-0.5 + 10.0), d -> d.depth(Full.OPEN, 0, NOW), NO_REAL, d -> d.depth(Full.OPEN, 0, 0), NO_REAL);
        call("water", Due.real(-0.5 + 10.0), d -> d.water(Full.OPEN, 0), NO_REAL, d -> d.water(Full.UNKNOWN, 0), NO_REAL);
        TideDesk d = spent(2998);
        d.wave(2, 1000, 1, 65533);
        d.survey(2, 0);
        d.rule(2, 1);
        d.waters(2, 0, 70);
        due.is("HIGH and LOW", d.range(2, 2) == NO_REAL ? 1 : 0, 0);
        due.is("HIGH and HIGH", d.range(2, 0), NO_REAL);
        due.row("LACK", Due.row(7, 2999), d.finding(), d.count(8));
        d.range(2, 0);
        due.is("LACK", d.count(8), 3000);
        due.is("range at 3000", d.range(2, 2), NO_REAL);
        due.is("no FINDING more", d.count(8), 3000);
    }

    private static void floatsAndHundredths() {
        call("air", 410, d -> d.air(Full.THREE, 0), NO_FLOAT, d -> d.air(Full.THREE, 3), NO_FLOAT);
        call("stream", 0, d -> d.stream(0, Full.HIGH), NO_FLOAT, d -> d.stream(1, 0), NO_FLOAT);
        call("at", 410, d -> d.at(Full.THREE, 0), -100002, d -> d.at(Full.THREE, 3), -100000);
        bad("at", -100000, d -> d.at(4, 0));
    }

    private static void gaugesAndWaters() {
        call("force", 1, d -> d.force(0, 86400, NOW), Due.NULL, d -> d.force(2, 0, 0), FULL);
        call("reading", 4, d -> d.reading(Full.THREE, 0, 0), Due.NULL, d -> d.reading(Full.OUT, 0, 0), FULL);
        call("compare", 26, d -> d.compare(Full.THREE, 0, 0), Due.INDEX, d -> d.compare(Full.THREE, 0, 3), FULL);
        call("waters", 0, d -> d.waters(1, 0, 3), Due.NULL, d -> d.waters(2, 0, 3), FULL);
        bad("force", BAD, d -> d.force(0, 0, NOW + 1));
        bad("reading", BAD, d -> d.reading(0, 32768, 0));
        bad("compare", BAD, d -> d.compare(4, 0, 0));
        bad("waters", BAD, d -> d.waters(0, 0, 2));
    }

    private static void shipsAndFleets() {
        call("ask", 1, d -> d.ask(0, 0), Due.ZERO, d -> d.ask(Full.ZERO_TOW, 2), FULL);
        call("as", 1, d -> d.as(0, 0), Due.CAST, d -> d.as(0, 1), FULL);
        call("fleet", 1, d -> d.fleet(3, 5, 1), Due.SIZE, d -> d.fleet(3, 5, -1), FULL);
        call("join", 1, d -> d.join(0, 2, 1), Due.STORE, d -> d.join(1, 0, 1), FULL);
        call("member", 3, d -> d.member(0, 0), Due.INDEX, d -> d.member(0, 3), FULL);
        call("move", 1, d -> d.move(0, 0, 0, 2, 1), Due.NULL, d -> d.move(0, 0, 3, 2, 1), FULL);
        call("shared", 1, d -> d.shared(0, 9), Due.ZERO, d -> d.shared(2, 9), FULL);
        bad("ask", BAD, d -> d.ask(0, 5));
        bad("as", BAD, d -> d.as(0, 5));
        bad("fleet", BAD, d -> d.fleet(0, 5, 9));
        bad("join", BAD, d -> d.join(0, 0, 9));
        bad("member", BAD, d -> d.member(4, 0));
        bad("move", BAD, d -> d.move(0, 0, 4, 0, 0));
        bad("shared", BAD, d -> d.shared(0, -1));
    }

    private static void routesAndPassages() {
        call("comes", 120, d -> d.comes(1, Full.USED, 1, 0), Due.ZERO, d -> d.comes(Full.ZERO_TOW, Full.USED, 1, 0), FULL);
        call("holds", 1, d -> d.holds(1, Full.EMPTY, 0), Due.NULL, d -> d.holds(1, Full.LOST, 0), FULL);
        call("windows", 1, d -> d.windows(1, Full.EMPTY, 0, 9), 0, d -> d.windows(1, Full.LOST, 0, 1), FULL);
        call("pass", 1, d -> d.pass(0), Due.HELD, d -> d.pass(3), FULL);
        bad("comes", BAD, d -> d.comes(1, Full.USED, 2, 0));
        bad("holds", BAD, d -> d.holds(1, Full.EMPTY, 43200));
        bad("windows", BAD, d -> d.windows(1, Full.EMPTY, 0, 0));
        bad("pass", BAD, d -> d.pass(8));
        TideDesk d = spent(3000);
        due.all("FULL ahead of NO, that comes behind what is asked", FULL, d.comes(Full.STILL, Full.USED, 0, 0),
            d.holds(Full.STILL, Full.USED, 0));
    }

    private static void findingsOfMinutes() {
        TideDesk d = spent(2999);
        due.is("one call may go beyond", d.windows(1, Full.LOST, 0, 120), 0);
        due.row("all of its minutes", Due.row(120, 1, 1, 3119), d.wrong(0), d.wrong(1), d.finding(), d.count(8));
        due.is("FULL", d.windows(1, Full.EMPTY, 0, 1), FULL);
        TideDesk e = spent(2900);
        due.is("100 of them", e.windows(1, Full.LOST, 0, 100), 0);
        due.row("3000", Due.row(3000, FULL), e.count(8), e.holds(1, Full.EMPTY, 0));
        TideDesk f = spent(2900);
        due.is("99 of them", f.windows(1, Full.LOST, 0, 99), 0);
        due.row("2999", Due.row(2999, 1), f.count(8), f.holds(1, Full.EMPTY, 0));
    }

    /** PASSAGES 4 and 5 have a FINDING; 3, 6 and 7 get a start, the last one behind the LOCK of the first. */
    private static void findingsOfPlans() {
        TideDesk d = spent(2998);
        due.is("plan", d.plan(), 3);
        due.row("3000", Due.row(3000, 1, 60, 70), d.count(8), d.finding(), d.planned(6, 1), d.planned(7, 1));
        due.is("FULL", d.plan(), FULL);
        TideDesk e = spent(2999);
        due.is("FULL ahead of all of them alone", e.plan(), 3);
        due.row("3001", Due.row(3001, 60, 70), e.count(8), e.planned(6, 1), e.planned(7, 1));
        new Twins(due, () -> spent(3000)).refuse("plan at 3000", FULL, Twins.nothing(), TideDesk::plan);
        TideDesk f = spent(3000);
        f.plan();
        due.row("they WAIT on", Due.row(1, Due.NONE, 1, Due.NONE), f.planned(6, 0), f.planned(6, 1), f.planned(7, 0), f.planned(7, 1));
    }

    private static void behindNo() {
        TideDesk d = spent(3000);
        due.row("reading", Due.row(Due.NO, FULL), d.reading(Full.ONE, 0, 0), d.reading(Full.OUT, 0, 0));
        d.clock(NOW + 29);
        due.is("reading", d.reading(Full.ONE, 0, 0), Due.NO);
        d.clock(NOW + 30);
        due.is("reading", d.reading(Full.ONE, 0, 0), FULL);
    }

    /** The calls that can have no FINDING. */
    private static void othersGoOn() {
        TideDesk d = spent(3000);
        due.all("1", 1, d.clock(NOW), d.out(Full.OUT, false), d.tide(0, 0, 0), d.sun(0, 86400), d.again(0));
        due.row("what it was", Due.row(55, 3, 6, 20), d.mean(0, 1), d.rule(0, 1), d.rule(1, 1), d.rule(2, 1));
        due.row("how many", Due.row(3, 4, 3), d.wave(0, 1, 1, 1), d.survey(0, 0), d.dredge(0, 0, 0));
        due.row("numbers", Due.row(4, 4, 9, 8), d.gauge(0, 0, 60), d.shoal(0, 0, 0), d.ship(0, 0, 0, 0, 0, 0), d.passage(0, 0, 0));
        due.is("cos", d.cos(0), Due.real(1.0));
        due.row("WATERS", Due.row(32000, 1), d.found(0, 0, 0), d.found(0, 1, 1));
        due.is("SPRING", d.spring(0, true) >= 0 ? 1 : 0, 1);
        due.row("asks", Due.row(1, 213, 12), d.lacking(), d.asked(), d.trace(0));
        due.row("ROUTES", Due.row(2, 4, Due.NO), d.leg(Full.MARKED, 0, 10, 0), d.clear(Full.LONG), d.leg(Full.USED, 0, 500, 0));
        due.row("WINDOWS", Due.row(Due.NONE, Due.NONE, 1), d.window(0, false), d.window(0, true), d.wrong(1));
        due.row("PASSAGES", Due.row(1, Due.NONE, NOW, 1), d.planned(0, 0), d.planned(0, 1), d.planned(0, 2), d.tries());
        due.row("status", Due.row(0, 1, NOW, 1), d.held(0), d.held(1), d.count(0), d.finding());
        due.is("NO", d.again(0), Due.NO);
        TideDesk e = spent(3001);
        due.is("digest", e.digest(), spent(2000).digest());
    }

    /** FULL is ahead of each FINDING of each call. */
    private static void everyFinding() {
        TideDesk d = spent(3000);
        due.all("REALS", NO_REAL, d.height(2, 0, 0), d.surge(Full.OUT, 0), d.surge(Full.BLIND, 0), d.depth(Full.OPEN, 0, 0),
            d.depth(Full.UNKNOWN, 0, NOW), d.water(Full.UNKNOWN, 0), d.range(0, 0));
        due.all("FLOATS", NO_FLOAT, d.air(Full.OUT, 0), d.air(Full.THREE, 3), d.air(Full.THREE, -1), d.stream(1, 0), d.stream(0, 2591999));
        due.all("hundredths", -100000, d.at(Full.OUT, 0), d.at(Full.THREE, 3), d.at(Full.THREE, -1));
        due.all("of WAVES, GAUGES, WATERS", FULL, d.force(2, 0, 0), d.reading(Full.OUT, 0, 0), d.compare(Full.OUT, 0, 0),
            d.compare(Full.THREE, 3, 0), d.compare(Full.THREE, 0, 3), d.waters(2, 0, 3));
        due.all("of SHIPS", FULL, d.ask(Full.HALF_PAIR, 0), d.ask(Full.ZERO_TOW, 2), d.as(Due.NONE, 0), d.as(0, 4));
        due.all("of FLEETS", FULL, d.fleet(0, 0, -1), d.fleet(3, 0, Due.MIN), d.join(3, 0, 0), d.join(0, 3, 0), d.join(1, 0, 1), d.member(3, 0),
            d.member(0, -1), d.move(3, 0, 0, 0, 0), d.move(0, 0, 3, 0, 0), d.move(0, -1, 0, 0, 1), d.move(0, 0, 1, 0, 1), d.shared(3, 0),
            d.shared(2, 0));
        due.all("of ROUTES", FULL, d.comes(Full.HALF_PAIR, 0, 0, 0), d.comes(Full.ZERO_TOW, 0, 0, 0), d.holds(Full.HALF_PAIR, 0, 0),
            d.holds(1, Full.LOST, 0), d.windows(Full.HALF_PAIR, 0, 0, 1), d.pass(3), d.pass(4), d.pass(5), d.plan());
        due.row("none of them came", Due.row(3000, 1, 1), d.count(8), d.finding(), d.tries());
    }

    /** BAD is ahead of FULL for each number of each call. */
    private static void everyBad() {
        TideDesk d = spent(3000);
        due.all("of WAVES", BAD, d.force(12, 0, 0), d.force(0, 2592000, 0), d.force(0, 0, NOW + 1), d.force(0, 0, -1));
        due.all("of GAUGES", BAD, d.reading(4, 0, 0), d.reading(0, 32768, 0), d.compare(-1, 0, 0), d.compare(4, 0, 0));
        due.all("of WATERS", BAD, d.waters(12, 0, 3), d.waters(0, -1, 3), d.waters(0, 0, 2), d.waters(0, 0, 201), d.waters(0, 2591999, 3),
            d.waters(0, 2592000 - 2400, 3));
        due.all("of SHIPS", BAD, d.ask(9, 0), d.ask(0, 5), d.ask(0, -1), d.as(9, 0), d.as(-2, 0), d.as(0, 5), d.as(Due.NONE, 5));
        due.all("of FLEETS", BAD, d.fleet(4, 0, 1), d.fleet(0, 6, 1), d.fleet(0, 0, 9), d.fleet(4, 0, -1), d.join(4, 0, 0), d.join(0, 0, 9),
            d.join(3, 0, -2), d.member(-1, 0), d.move(4, 0, 0, 0, 0), d.move(0, 0, -1, 0, 0), d.shared(4, 0), d.shared(3, -1));
        due.all("of coming", BAD, d.comes(9, 0, 0, 0), d.comes(0, 6, 0, 0), d.comes(0, 0, 2, 0), d.comes(0, 0, -1, 0), d.comes(0, 0, 0, 2592000));
        due.all("of minutes", BAD, d.holds(9, 0, 0), d.holds(0, 6, 0), d.holds(0, 0, 43200), d.windows(9, 0, 0, 1), d.windows(0, 6, 0, 1),
            d.windows(0, 0, 0, 0), d.windows(0, 0, 0, 121), d.windows(0, 0, -1, 1), d.windows(0, 0, 43199, 2));
        due.all("of PASSAGES", BAD, d.pass(8), d.pass(-1));
        due.row("none came", Due.row(3000, 1, 1), d.count(8), d.finding(), d.tries());
    }
}
