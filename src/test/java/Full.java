/** A desk with something of everything, and what stands on it. */
final class Full {
    /** NOW. */
    static final int NOW = 90000;
    /** A HIGH of STATION 0. */
    static final int HIGH = 64000;
    static final int NO_MARK = Due.NO_FLOAT;

    /** SHIPS: 0 to 3 of these KINDS, PAIRS of 0 and 2, of 3 and NOTHING, of 4 and 4; a TOW of x 0; a LIGHT that lies still. */
    static final int PAIR = 4, HALF_PAIR = 5, PAIR_OF_PAIRS = 6, ZERO_TOW = 7, STILL = 8;
    /** GAUGES: of STATION 0 with three READINGS, of 1 and OUT, of 1 with one alone, of 2, which has no SURVEY, with one. */
    static final int THREE = 0, OUT = 1, ONE = 2, BLIND = 3;
    /** SHOALS: of STATION 0 with a LOCK, of 1 without and with one, of 2. */
    static final int LOCKED = 0, OPEN = 1, NARROW = 2, UNKNOWN = 3;
    /** ROUTES: one that is used, one with a MARK, one that is full, one over the SHOAL of no SURVEY, twice over a LOCK, empty. */
    static final int USED = 0, MARKED = 1, LONG = 2, LOST = 3, TWICE = 4, EMPTY = 5;

    private Full() {
    }

    static TideDesk make() {
        TideDesk d = new TideDesk();
        seas(d);
        gauges(d);
        shoals(d);
        shipsAndFleets(d);
        routes(d);
        passages(d);
        d.surge(THREE, 1200);
        d.windows(2, USED, 350, 20);
        d.pass(0);
        d.at(THREE, 9);
        d.ask(PAIR, 0);
        return d;
    }

    private static void seas(TideDesk d) {
        d.mean(0, 300);
        d.wave(0, 1000, 1024, 0);
        d.survey(0, 0);
        d.clock(500);
        Due.level(d, 1, 1000);
        d.clock(700);
        d.mean(0, 310);
        d.wave(0, 1000, 1024, 0);
        d.survey(0, 1);
        d.clock(NOW);
        d.mean(0, 55);
        d.wave(0, 9, 9, 9);
        d.wave(0, 8, 8, 8);
        d.mean(1, -7);
        d.wave(11, 1, 2, 3);
        d.waters(0, 0, 200);
        for (int hour = -6; hour <= 6; hour++) d.tide(0, hour, Due.bits(hour * 0.25f));
    }

    private static void gauges(TideDesk d) {
        d.gauge(0, 0, 600);
        for (int v : new int[] {410, -32768, 390}) d.reading(THREE, v, v);
        d.gauge(1, 100, 60);
        d.reading(OUT, 77, 78);
        d.out(OUT, true);
        d.gauge(1, NOW - 30, 60);
        d.reading(ONE, 1111, 12);
        d.gauge(2, 0, 60);
        d.reading(BLIND, 5, 6);
        d.rule(0, 3);
        d.rule(1, 6);
        d.rule(2, 20);
    }

    private static void shoals(TideDesk d) {
        d.shoal(0, 200, 600);
        d.shoal(1, -100, 0);
        d.shoal(1, 500, 90);
        d.shoal(2, 0, 60);
        d.dredge(LOCKED, 1, 250);
        d.dredge(OPEN, 0, -50);
    }

    private static void shipsAndFleets(TideDesk d) {
        for (int kind = 0; kind < 4; kind++) d.ship(kind, 100 + kind, 100, 1 + kind % 2, 0, 0);
        d.ship(4, 1, 2, 3, 0, 2);
        d.ship(4, 1, 2, 4, 3, -1);
        d.ship(4, 1, 2, 5, PAIR, PAIR);
        d.ship(2, 0, 100, 0, 0, 0);
        d.ship(1, 0, 0, 0, 0, 0);
        d.fleet(0, 5, 3);
        d.fleet(1, 0, 2);
        d.fleet(2, 1, 0);
        d.join(0, 0, 3);
        d.join(0, 1, 2);
        d.join(1, 1, 0);
    }

    private static void routes(TideDesk d) {
        d.leg(USED, OPEN, 0, NO_MARK);
        d.leg(USED, NARROW, 120, NO_MARK);
        d.leg(MARKED, LOCKED, 10, Due.bits(1.0f));
        for (int i = 0; i < 4; i++) d.leg(LONG, i % 3, 100 * i, NO_MARK);
        d.leg(LOST, UNKNOWN, 0, NO_MARK);
        d.leg(TWICE, NARROW, 0, NO_MARK);
        d.leg(TWICE, LOCKED, 0, NO_MARK);
        d.leg(TWICE, NARROW, 0, NO_MARK);
    }

    /** 0 and 1 have starts, 2 is PLANNED without one, 3 to 7 WAIT. */
    private static void passages(TideDesk d) {
        d.passage(1, USED, 50);
        d.passage(3, USED, 50);
        d.passage(STILL, USED, 50);
        d.plan();
        d.clock(NOW);
        d.passage(0, TWICE, 60);
        d.passage(ZERO_TOW, LONG, 60);
        d.passage(HALF_PAIR, LONG, 60);
        d.passage(1, EMPTY, 60);
        d.passage(1, LONG, 60);
    }
}
