/** Terms: "Answers, the first of these that fits: BAD, NO, FULL, then the FINDING", where more than one of them fits. */
public final class OrderTest {
    private static final Due due = new Due("OrderTest");
    private static final int BAD = Due.BAD, NO = Due.NO, FULL = Due.FULL, NONE = Due.NONE;

    public static void main(String[] args) {
        badAheadOfFull();
        readings();
        shipsAndLegs();
        badAheadOfFindings();
        findingsInOrder();
        comes();
        holds();
        passes();
        due.end();
    }

    private static void badAheadOfFull() {
        TideDesk d = Full.make();
        for (int i = 0; i < 8; i++) d.wave(0, 1, 1, 1);
        for (int i = 0; i < 60; i++) d.survey(3, 0);
        for (int i = 0; i < 10; i++) d.gauge(3, 0, 60);
        for (int i = 0; i < 16; i++) d.shoal(3, 0, 0);
        for (int i = 0; i < 60; i++) d.dredge(0, 0, 0);
        for (int i = 0; i < 40; i++) d.ship(0, 0, 0, 0, 0, 0);
        for (int i = 0; i < 40; i++) d.passage(1, Full.EMPTY, 0);
        due.all("FULL", FULL, d.wave(0, 1, 1, 1), d.survey(0, 0), d.gauge(0, 0, 60), d.shoal(0, 0, 0), d.dredge(0, 0, 0),
            d.ship(0, 0, 0, 0, 0, 0), d.ship(4, 0, 0, 0, -1, 39), d.passage(0, 0, 0), d.leg(Full.LONG, 0, 300, 0));
        due.all("a wave", BAD, d.wave(0, -1, 1, 1), d.wave(0, 1, 60001, 1), d.wave(0, 1, 1, 65536));
        due.all("a survey", BAD, d.survey(12, 0), d.survey(0, 30));
        due.all("a gauge", BAD, d.gauge(12, 0, 60), d.gauge(0, 2592000, 60), d.gauge(0, 0, 7201));
        due.all("a shoal", BAD, d.shoal(12, 0, 0), d.shoal(0, 5001, 0), d.shoal(0, 0, 7201));
        due.all("a dredging", BAD, d.dredge(16, 0, 0), d.dredge(0, 30, 0), d.dredge(0, 0, 5001));
        due.all("a ship", BAD, d.ship(5, 0, 0, 0, 0, 0), d.ship(0, 3001, 0, 0, 0, 0), d.ship(0, 0, 3001, 0, 0, 0),
            d.ship(0, 0, 0, 1001, 0, 0), d.ship(4, 0, 0, 0, 40, 0), d.ship(4, 0, 0, 0, 0, 40));
        due.all("a passage", BAD, d.passage(40, 0, 0), d.passage(0, 6, 0), d.passage(0, 0, 43200));
        due.all("a leg", BAD, d.leg(Full.LONG, 16, 300, 0), d.leg(Full.LONG, 0, 299, 0), d.leg(Full.LONG, 0, 50001, 0),
            d.leg(Full.LONG, 0, 300, -8388608));
    }

    private static void readings() {
        TideDesk d = Full.make();
        due.row("above NOW", Due.row(NO, BAD, BAD), d.reading(Full.ONE, 0, 0), d.reading(Full.ONE, 32768, 0),
            d.reading(Full.ONE, -32769, 0));
        d.out(Full.ONE, true);
        due.row("above NOW, and OUT", Due.row(NO, BAD), d.reading(Full.ONE, 0, 0), d.reading(Full.ONE, 32768, 0));
        due.row("OUT", Due.row(Due.NULL, BAD), d.reading(Full.OUT, 0, 0), d.reading(Full.OUT, 32768, 0));
        int g = d.gauge(5, Full.NOW - 119 * 60, 60);
        for (int i = 0; i < 120; i++) d.reading(g, i, i);
        due.row("full, and above NOW", Due.row(NO, BAD), d.reading(g, 0, 0), d.reading(g, 32768, 0));
        d.clock(Full.NOW + 59);
        due.is("full, and above NOW", d.reading(g, 0, 0), NO);
        d.clock(Full.NOW + 60);
        due.row("full", Due.row(FULL, BAD), d.reading(g, 0, 0), d.reading(g, 32768, 0));
        d.out(g, true);
        due.row("full, and OUT", Due.row(FULL, BAD), d.reading(g, 0, 0), d.reading(g, -32769, 0));
    }

    private static void shipsAndLegs() {
        TideDesk d = Full.make();
        int three = d.ship(4, 0, 0, 0, Full.PAIR_OF_PAIRS, 0);
        int four = d.ship(4, 0, 0, 0, 0, three);
        due.row("a 5th PAIR", Due.row(NO, NO, BAD, BAD, BAD), d.ship(4, 0, 0, 0, four, 0), d.ship(4, 0, 0, 0, 0, four),
            d.ship(4, 3001, 0, 0, four, 0), d.ship(4, 0, 0, 0, four, 99), d.ship(4, 0, 0, 0, 99, four));
        while (d.count(5) < 40) d.ship(0, 0, 0, 0, 0, 0);
        due.row("and a 41st SHIP", Due.row(NO, BAD, FULL), d.ship(4, 0, 0, 0, four, 0), d.ship(4, 0, 0, 0, four, 40),
            d.ship(4, 0, 0, 0, three, 0));
        due.row("a start", Due.row(NO, BAD, BAD, BAD), d.leg(Full.USED, 0, 120, 0), d.leg(Full.USED, 0, 119, 0),
            d.leg(Full.USED, 4, 120, 0), d.leg(Full.USED, 0, 120, 0x80000001));
        d.passage(1, Full.LONG, 2000);
        due.is("no start yet", d.leg(Full.LONG, 0, 300, 0), FULL);
        d.plan();
        due.row("a start, and full", Due.row(NO, BAD), d.leg(Full.LONG, 0, 300, 0), d.leg(Full.LONG, 0, 299, 0));
    }

    private static void badAheadOfFindings() {
        TideDesk d = Full.make();
        int findings = d.count(8);
        due.all("no SURVEY", Due.NO_REAL, d.height(2, 0, Full.NOW + 1), d.height(2, -1, 0), d.depth(Full.UNKNOWN, -1, 0),
            d.water(Full.UNKNOWN, 2592000), d.surge(Full.OUT, -1), d.surge(Full.BLIND, 2592000));
        due.all("no SURVEY", BAD, d.force(2, 0, Full.NOW + 1), d.force(2, 2592000, 0), d.waters(2, 0, 2), d.waters(2, -1, 3));
        due.all("no HIGH", Due.NO_FLOAT, d.stream(1, -1), d.stream(1, 2592000));
        due.all("fewer than none", BAD, d.fleet(4, 0, -1), d.fleet(0, 6, -1));
        due.all("NOTHING", BAD, d.as(NONE, 5), d.as(NONE, -1), d.join(3, 0, 9), d.join(3, 0, -2), d.move(3, 0, 4, 0, 0),
            d.move(-1, 0, 3, 0, 0), d.shared(3, -1), d.shared(3, 1000001));
        due.all("no place", BAD, d.join(0, 3, 9), d.move(0, 4, 4, 0, 0));
        due.all("ZERO", BAD, d.ask(Full.ZERO_TOW, 5), d.comes(Full.ZERO_TOW, Full.USED, 2, 0), d.comes(Full.ZERO_TOW, Full.EMPTY, 0, 0),
            d.holds(Full.ZERO_TOW, Full.USED, 43200), d.windows(Full.ZERO_TOW, Full.USED, 0, 0), d.shared(2, -1));
        due.is("no FINDING more", d.count(8), findings);
    }

    private static void findingsInOrder() {
        TideDesk d = Full.make();
        due.row("OUT, and no READING", Due.row(-100001, -100001), d.at(Full.OUT, 1), d.at(Full.OUT, -1));
        d.air(Full.OUT, 1);
        due.is("OUT, and no READING", d.finding(), 1);
        due.row("OUT, and no READING", Due.row(Due.NULL, Due.NULL), d.compare(Full.OUT, 1, 0), d.compare(Full.OUT, 0, 1));
        d.out(Full.BLIND, true);
        d.surge(Full.BLIND, 0);
        due.is("OUT, and LACK", d.finding(), 1);
        due.row("NOTHING, and no place", Due.row(Due.NULL, Due.NULL, Due.NULL, Due.NULL), d.join(3, -1, 0), d.member(3, 8),
            d.move(3, -1, 0, 0, 1), d.move(0, 0, 3, 9, -1));
        due.is("NOTHING to share", d.shared(3, 0), Due.NULL);
        due.row("no place, and not of the SORT", Due.row(Due.INDEX, Due.INDEX, Due.STORE), d.join(1, 2, 1), d.move(0, 0, 1, 0, 3),
            d.move(0, 0, 1, 0, 2));
        due.row("NOTHING is of all KINDS", Due.row(Due.NULL, Due.NULL), d.as(NONE, 0), d.as(NONE, 4));
    }

    private static void comes() {
        TideDesk d = Full.make();
        int still = d.ship(4, 0, 0, 0, Full.STILL, NONE);
        int zero = d.ship(4, 0, 0, 0, Full.STILL, Full.ZERO_TOW);
        int back = d.ship(4, 0, 0, 0, Full.ZERO_TOW, NONE);
        due.row("PACE below 1, but a FINDING comes", Due.row(Due.NULL, Due.ZERO, Due.ZERO), d.comes(still, Full.USED, 0, 0),
            d.comes(zero, Full.USED, 0, 0), d.comes(back, Full.USED, 0, 0));
        due.row("beyond all MOMENTS, but a FINDING comes", Due.row(Due.ZERO, NO), d.comes(Full.ZERO_TOW, Full.USED, 1, 2591999),
            d.comes(1, Full.USED, 1, 2591999));
        due.is("of no LEG", d.comes(Full.STILL, Full.EMPTY, 0, 0), BAD);
    }

    private static void holds() {
        TideDesk d = Full.make();
        int still = d.ship(4, 0, 0, 0, Full.STILL, NONE);
        due.is("NEED's NULL ahead of PACE's NO", d.holds(still, Full.EMPTY, 0), Due.NULL);
        due.trace(d, 12, 10, 20);
        int tow = d.ship(2, 0, 1, 2, 0, 0);
        due.is("PACE below 1, behind BY DAY", d.holds(tow, Full.LOST, 0), NO);
        due.trace(d, 11, 10, 22, 21, 31, 30, 51);
        due.is("PACE below 1 ahead of the LEGS' NULL", d.holds(Full.STILL, Full.LOST, 0), NO);
        due.is("ZERO ahead of the LEGS' NULL", d.holds(Full.ZERO_TOW, Full.LOST, 0), Due.ZERO);
        due.is("night ahead of NULL", d.holds(2, Full.LOST, 0), 0);
        due.is("day: NULL", d.holds(2, Full.LOST, 720), Due.NULL);
        due.is("too little WATER ahead of INDEX", d.holds(d.ship(1, 3000, 100, 0, 0, 0), Full.MARKED, 43000), 0);
        due.is("enough: INDEX", d.holds(1, Full.MARKED, 43000), Due.INDEX);
        d.leg(Full.EMPTY, Full.UNKNOWN, 0, 0);
        d.leg(Full.EMPTY, Full.OPEN, 50000, 0);
        due.is("LEG by LEG: NULL ahead of NO", d.holds(1, Full.EMPTY, 43199), Due.NULL);
        d.clear(Full.EMPTY);
        d.leg(Full.EMPTY, Full.OPEN, 50000, 0);
        d.leg(Full.EMPTY, Full.UNKNOWN, 50000, 0);
        due.is("LEG by LEG: NO ahead of NULL", d.holds(1, Full.EMPTY, 43199), NO);
        d.clear(Full.EMPTY);
        d.leg(Full.EMPTY, Full.OPEN, 0, 0);
        d.leg(Full.EMPTY, Full.UNKNOWN, 0, 0);
        int deep = d.ship(1, 1000, 100, 0, 0, 0);
        due.is("LEG by LEG: 0 ahead of NULL", d.holds(deep, Full.EMPTY, 0), 0);
    }

    private static void passes() {
        TideDesk d = Full.make();
        int null1 = d.passage(Full.HALF_PAIR, Full.TWICE, 0);
        due.is("NEED's NULL ahead of HELD", d.pass(null1), Due.NULL);
        due.is("none was HELD", d.held(1), 0);
        int zero = d.passage(Full.ZERO_TOW, Full.TWICE, 0);
        due.is("HELD ahead of PACE's ZERO", d.pass(zero), Due.HELD);
        due.trace(d, 11, 10, 22, 21);
        int halfTow = d.ship(4, 0, 0, 0, Full.ZERO_TOW, 0);
        int both = d.passage(halfTow, Full.EMPTY, 0);
        due.is("PACE's ZERO ahead of its PATIENCE", d.pass(both), Due.ZERO);
        due.trace(d, 12, 11, 10, 22, 21, 11, 10, 21, 32, 31, 30);
    }
}
