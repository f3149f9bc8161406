/** Promises 38 to 45. */
public final class RoutesTest {
    private static final Due due = new Due("RoutesTest");
    private static final int NO_MARK = Due.NO_FLOAT;

    public static void main(String[] args) {
        leg();
        legsOfStartedRoutes();
        clear();
        sun();
        comes();
        holdsByWater();
        holdsByDay();
        holdsByStream();
        holdsByComing();
        holdsAsksInOrder();
        holdsMeetsInOrder();
        windows();
        windowsKept();
        windowsRefused();
        wrong();
        due.end();
    }

    /** STATIONS 0, of 3 metres, and 1, without a SURVEY; SHOALS 0 (at 0, BED 1.00) and 1 (at 1); SHIPS of each KIND. */
    private static TideDesk desk() {
        TideDesk d = new TideDesk();
        Due.level(d, 0, 300);
        d.shoal(0, 100, 0);
        d.shoal(1, 100, 0);
        d.ship(0, 200, 400, 1, 0, 0);
        d.ship(1, 200, 400, 1, 0, 0);
        d.ship(2, 200, 400, 1, 0, 0);
        d.ship(3, 200, 400, 1, 0, 0);
        d.ship(4, 0, 0, 0, 0, 1);
        return d;
    }

    private static void leg() {
        TideDesk d = desk();
        due.all("leg BAD", Due.BAD, d.leg(-1, 0, 0, NO_MARK), d.leg(6, 0, 0, NO_MARK), d.leg(0, -1, 0, NO_MARK),
            d.leg(0, 2, 0, NO_MARK), d.leg(0, 0, -1, NO_MARK), d.leg(0, 0, 50001, NO_MARK), d.leg(0, 0, 0, Due.bits(-1.0f)),
            d.leg(0, 0, 0, 0x80000001), d.leg(0, 0, 0, Due.bits(Float.NEGATIVE_INFINITY)));
        due.row("leg", Due.row(1, 2), d.leg(0, 0, 100, 0), d.leg(0, 1, 100, Due.bits(-0.0f)));
        due.is("below the one ahead", d.leg(0, 0, 99, NO_MARK), Due.BAD);
        due.row("leg", Due.row(3, 4), d.leg(0, 0, 50000, Due.bits(Float.POSITIVE_INFINITY)), d.leg(0, 0, 50000, -1));
        due.is("a 5th", d.leg(0, 0, 50000, NO_MARK), Due.FULL);
        due.is("BAD ahead of FULL", d.leg(0, 0, 49999, NO_MARK), Due.BAD);
        due.is("of another ROUTE", d.leg(5, 0, 0, NO_MARK), 1);
    }

    private static void legsOfStartedRoutes() {
        TideDesk d = desk();
        d.leg(0, 0, 0, NO_MARK);
        d.passage(0, 0, 0);
        due.is("it WAITS", d.leg(0, 0, 0, NO_MARK), 2);
        d.plan();
        due.is("a start", d.planned(0, 1), 0);
        due.is("leg", d.leg(0, 0, 0, NO_MARK), Due.NO);
        due.is("BAD ahead of NO", d.leg(0, 2, 0, NO_MARK), Due.BAD);
        due.is("clear", d.clear(0), Due.NO);
        due.is("another ROUTE", d.leg(1, 0, 0, NO_MARK), 1);
        due.is("another ROUTE", d.clear(1), 1);
        d.again(0);
        due.is("leg", d.leg(0, 0, 0, NO_MARK), 3);
        due.is("clear", d.clear(0), 3);
        for (int i = 0; i < 4; i++) d.leg(0, 0, 0, NO_MARK);
        d.plan();
        due.is("NO ahead of FULL", d.leg(0, 0, 0, NO_MARK), Due.NO);
    }

    private static void clear() {
        TideDesk d = desk();
        due.all("clear BAD", Due.BAD, d.clear(-1), d.clear(6));
        due.is("had none", d.clear(0), 0);
        d.leg(0, 0, 500, NO_MARK);
        d.leg(0, 1, 600, NO_MARK);
        d.leg(1, 1, 600, NO_MARK);
        due.row("clear", Due.row(2, 0, 1), d.clear(0), d.clear(0), d.clear(1));
        due.is("DISTANCES begin anew", d.leg(0, 0, 0, NO_MARK), 1);
    }

    private static void sun() {
        TideDesk d = desk();
        due.all("sun", 1, d.sun(0, 86400), d.sun(86400, 0), d.sun(5, 5));
        due.all("sun BAD", Due.BAD, d.sun(-1, 0), d.sun(86401, 0), d.sun(0, -1), d.sun(0, 86401));
    }

    private static void comes() {
        TideDesk d = desk();
        d.leg(0, 0, 0, NO_MARK);
        d.leg(0, 0, 1001, NO_MARK);
        d.leg(0, 0, 50000, NO_MARK);
        due.row("comes", Due.row(7, 7 + 250, 7 + 12500), d.comes(0, 0, 0, 7), d.comes(0, 0, 1, 7), d.comes(0, 0, 2, 7));
        due.trace(d, 30);
        d.leg(5, 0, 800, NO_MARK);
        due.is("on another ROUTE", d.comes(0, 5, 0, 0), 200);
        due.row("at the last MOMENT", Due.row(Due.LAST_MOMENT, Due.NO), d.comes(0, 0, 1, Due.LAST_MOMENT - 250),
            d.comes(0, 0, 1, Due.LAST_MOMENT - 249));
        due.is("a PAIR", d.comes(4, 0, 1, 0), 250);
        due.trace(d, 32, 30, 30);
        d.ship(1, 0, 0, 0, 0, 0);
        d.ship(2, 0, 400, 0, 0, 0);
        d.ship(2, 0, 400, -1, 0, 0);
        d.ship(4, 0, 0, 0, 0, -1);
        d.ship(1, 0, 1, 0, 0, 0);
        due.is("a PACE of nothing", d.comes(5, 0, 0, 0), Due.NO);
        due.is("NO is no FINDING", d.count(8), 0);
        due.is("ZERO", d.comes(6, 0, 0, 0), Due.ZERO);
        due.is("a PACE below nothing", d.comes(7, 0, 0, 0), Due.NO);
        due.is("NULL", d.comes(8, 0, 0, 0), Due.NULL);
        due.is("the slowest", d.comes(9, 0, 1, 0), 100100);
        due.is("beyond all MOMENTS", d.comes(9, 0, 2, 0), Due.NO);
        due.all("comes BAD", Due.BAD, d.comes(-1, 0, 0, 0), d.comes(10, 0, 0, 0), d.comes(0, -1, 0, 0), d.comes(0, 6, 0, 0),
            d.comes(0, 0, -1, 0), d.comes(0, 0, 3, 0), d.comes(0, 1, 0, 0), d.comes(0, 0, 0, -1), d.comes(0, 0, 0, 2592000));
        due.trace(d, 30);
        due.is("FINDINGS", d.count(8), 2);
    }

    private static void holdsByWater() {
        TideDesk d = new TideDesk();
        Due.level(d, 0, 300);
        d.shoal(0, 0, 0);
        d.leg(0, 0, 0, NO_MARK);
        d.ship(1, 270, 100, 0, 0, 0);
        d.ship(1, 271, 100, 0, 0, 0);
        due.row("as deep as it needs, and not", Due.row(1, 0), d.holds(0, 0, 0), d.holds(1, 0, 0));
        d.dredge(0, 1, 1);
        due.row("from DAY 1 on", Due.row(0, 1), d.holds(1, 0, 1439), d.holds(1, 0, 1440));
        d.gauge(0, 0, 60);
        d.reading(0, 301, 0);
        due.is("with the SURGE", d.holds(1, 0, 0), 1);
        due.is("that fades", d.holds(1, 0, 1), 0);
        due.is("at the last minute", d.holds(0, 0, 43199), 1);
        due.all("holds BAD", Due.BAD, d.holds(-1, 0, 0), d.holds(2, 0, 0), d.holds(0, -1, 0), d.holds(0, 6, 0), d.holds(0, 0, -1),
            d.holds(0, 0, 43200));
        d.ship(2, 0, 100, 1, 0, 0);
        d.sun(0, 86400);
        d.mean(0, -100);
        d.survey(0, 0);
        d.out(0, true);
        due.is("no water at all", d.holds(2, 0, 0), 0);
        d.ship(2, 0, 100, -200, 0, 0);
        d.ship(4, 0, 0, 0, 3, 3);
        due.is("NEED below 0, but PACE, too", d.holds(3, 0, 0), Due.NO);
    }

    private static void holdsByDay() {
        TideDesk d = desk();
        d.leg(0, 0, 0, NO_MARK);
        due.row("from RISE on and before SET", Due.row(0, 1, 1, 0), d.holds(2, 0, 359), d.holds(2, 0, 360), d.holds(2, 0, 1079),
            d.holds(2, 0, 1080));
        due.row("on the next DAY", Due.row(0, 1), d.holds(2, 0, 1440 + 359), d.holds(2, 0, 1440 + 360));
        due.row("others at night", Due.row(1, 1), d.holds(0, 0, 0), d.holds(1, 0, 1439));
        d.sun(0, 86400);
        due.row("always day", Due.row(1, 1), d.holds(2, 0, 0), d.holds(2, 0, 1439));
        d.sun(3600, 3600);
        due.row("never day", Due.row(0, 0), d.holds(2, 0, 60), d.holds(2, 0, 720));
        d.sun(3601, 3661);
        due.row("by seconds", Due.row(0, 1, 0), d.holds(2, 0, 60), d.holds(2, 0, 61), d.holds(2, 0, 62));
        d.leg(0, 0, 4, NO_MARK);
        due.is("at each LEG", d.holds(2, 0, 61), 0);
        d.leg(1, 1, 0, NO_MARK);
        due.is("asked ahead of the WATER", d.holds(2, 1, 0), 0);
        due.is("no FINDING", d.count(8), 0);
    }

    /** HIGHS at 8000 and 16000; STREAM by hours. */
    private static TideDesk streaming() {
        TideDesk d = new TideDesk();
        d.mean(0, 900);
        d.wave(0, 1000, 8192, 0);
        d.survey(0, 0);
        d.shoal(0, 0, 0);
        d.ship(1, 0, 100, 0, 0, 0);
        return d;
    }

    private static void holdsByStream() {
        TideDesk d = streaming();
        d.leg(0, 0, 0, Due.bits(2.0f));
        due.is("no HIGH", d.holds(0, 0, 0), Due.LACK);
        due.row("LACK", Due.row(7, 1), d.finding(), d.count(8));
        d.waters(0, 0, 30);
        d.tide(0, 0, Due.bits(2.0f) - 1);
        d.tide(0, 1, Due.bits(2.0f));
        d.tide(0, -1, Due.bits(-2.0f));
        d.tide(0, -2, Due.bits(-2.0f) - 1);
        due.row("by hours -2 .. 1", Due.row(1, 0, 1, 0), d.holds(0, 0, 30), d.holds(0, 0, 60), d.holds(0, 0, 133),
            d.holds(0, 0, 170));
        due.is("beyond the hours", d.holds(0, 0, 1000), Due.INDEX);
        d.leg(1, 0, 0, 0);
        due.is("none is below 0.0", d.holds(0, 1, 200), 0);
        d.leg(2, 0, 0, Due.bits(-0.0f));
        due.is("nor below -0.0", d.holds(0, 2, 200), 0);
        d.leg(3, 0, 0, Due.bits(Float.POSITIVE_INFINITY));
        due.is("all are below an endless one", d.holds(0, 3, 170), 1);
        d.leg(4, 0, 0, -1);
        due.is("no MARK", d.holds(0, 4, 1000), 1);
        d.ship(1, 3000, 100, 0, 0, 0);
        due.is("asked behind the WATER", d.holds(1, 0, 1000), 0);
        due.is("FINDINGS", d.count(8), 2);
        d.tide(0, 0, Due.bits(-0.0f));
        d.leg(5, 0, 0, 1);
        due.is("-0.0 is below the least MARK", d.holds(0, 5, 133), 1);
    }

    private static void holdsByComing() {
        TideDesk d = desk();
        d.leg(0, 0, 0, NO_MARK);
        d.leg(0, 0, 50000, NO_MARK);
        int last = (Due.LAST_MOMENT - 12500) / 60;
        due.row("beyond all MOMENTS", Due.row(1, Due.NO), d.holds(0, 0, last), d.holds(0, 0, last + 1));
        due.is("a ROUTE without LEGS", d.holds(0, 5, 43199), 1);
        d.ship(1, 0, 0, 0, 0, 0);
        due.is("PACE below 1", d.holds(5, 5, 0), Due.NO);
        d.ship(1, 0, 1, 0, 0, 0);
        due.is("PACE of 1", d.holds(6, 5, 0), 1);
        due.is("PACE below 1", d.holds(5, 0, 0), Due.NO);
        due.is("NO is no FINDING", d.count(8), 0);
        d.dredge(0, 1, -1000);
        d.leg(1, 0, 0, NO_MARK);
        d.leg(1, 0, 400, NO_MARK);
        due.row("LEG 1 a minute and 40 seconds later", Due.row(1, 0, 0), d.holds(0, 1, 1438), d.holds(0, 1, 1439),
            d.holds(0, 1, 1440));
    }

    private static void holdsAsksInOrder() {
        TideDesk d = desk();
        due.is("holds", d.holds(2, 5, 0), 1);
        due.trace(d, 11, 10, 22, 21, 31, 30, 51);
        d.ship(2, 0, 400, 0, 0, 0);
        due.is("ZERO", d.holds(5, 5, 0), Due.ZERO);
        due.trace(d, 11, 10, 22, 21, 31, 30);
        d.ship(4, 0, 0, 0, -1, 5);
        due.is("NULL", d.holds(6, 5, 0), Due.NULL);
        due.trace(d, 12);
        d.ship(1, 0, 0, 0, 0, 0);
        due.is("NO", d.holds(7, 5, 0), Due.NO);
        due.trace(d, 10, 20, 30, 50);
        due.is("BAD", d.holds(0, 6, 0), Due.BAD);
        due.trace(d, 10, 20, 30, 50);
        d.leg(0, 0, 0, NO_MARK);
        d.leg(0, 0, 0, NO_MARK);
        due.is("asked once for each minute", d.holds(1, 0, 0), 1);
        due.trace(d, 10, 20, 30, 50);
    }

    private static void holdsMeetsInOrder() {
        TideDesk d = desk();
        d.leg(0, 0, 0, NO_MARK);
        d.leg(0, 1, 0, NO_MARK);
        due.is("passes the first, NULL at the second", d.holds(0, 0, 0), Due.NULL);
        d.ship(1, 3000, 400, 0, 0, 0);
        due.is("does not pass the first", d.holds(5, 0, 0), 0);
        d.leg(0, 0, 50000, NO_MARK);
        due.is("NULL ahead of NO", d.holds(0, 0, 43199), Due.NULL);
        d.leg(1, 0, 0, NO_MARK);
        d.leg(1, 0, 50000, NO_MARK);
        d.leg(1, 1, 50000, NO_MARK);
        due.is("NO ahead of NULL", d.holds(0, 1, 43199), Due.NO);
        due.is("FINDINGS", d.count(8), 2);
    }

    private static void windows() {
        TideDesk d = desk();
        d.leg(0, 0, 0, NO_MARK);
        due.is("by day from 06:00 on", d.windows(2, 0, 300, 120), 1);
        due.row("window", Due.row(360, 419), d.window(0, false), d.window(0, true));
        due.is("till 18:00", d.windows(2, 0, 1000, 120), 1);
        due.row("window", Due.row(1000, 1079), d.window(0, false), d.window(0, true));
        due.is("at night", d.windows(2, 0, 0, 120), 0);
        due.all("no window", Due.NONE, d.window(0, false), d.window(0, true));
        due.is("one minute", d.windows(2, 0, 360, 1), 1);
        due.row("window", Due.row(360, 360, Due.NONE), d.window(0, false), d.window(0, true), d.window(1, false));
        d.sun(0, 60);
        due.is("up to the last minute", d.windows(1, 0, 43080, 120), 1);
        due.row("window", Due.row(43080, 43199), d.window(0, false), d.window(0, true));
        due.all("none such", Due.NONE, d.window(-1, false), d.window(1, true), d.window(Due.MAX, false), d.window(Due.MIN, true));
        due.is("WINDOWS", d.count(7), 1);
    }

    /** READINGS of each minute, by turns two with enough water and two without; no STREAM from minute 524 on. */
    private static void windowsKept() {
        TideDesk d = streaming();
        d.waters(0, 0, 20);
        due.is("the only HIGH", d.found(0, 1, 0), 8000);
        d.survey(0, 0);
        d.leg(0, 0, 0, Due.bits(1.0f));
        d.rule(0, 1);
        d.gauge(0, 414 * 60, 60);
        d.clock(533 * 60);
        for (int i = 0; i < 120; i++) d.reading(0, i % 4 < 2 ? 30 : 29, 0);
        due.is("20 are kept of 28", d.windows(0, 0, 414, 120), 20);
        for (int i = 0; i < 20; i++) {
            due.row("window " + i, Due.row(414 + 4 * i, 415 + 4 * i), d.window(i, false), d.window(i, true));
        }
        due.all("no more", Due.NONE, d.window(20, false), d.window(20, true));
        due.is("WINDOWS", d.count(7), 20);
        due.row("FINDINGS behind them", Due.row(4, 2), d.wrong(0), d.wrong(1));
        due.is("20 and no more", d.windows(0, 0, 414, 79), 20);
        due.is("19", d.windows(0, 0, 414, 76), 19);
    }

    private static void windowsRefused() {
        TideDesk d = desk();
        due.is("windows", d.windows(0, 0, 5, 3), 1);
        due.all("windows BAD", Due.BAD, d.windows(-1, 0, 0, 1), d.windows(5, 0, 0, 1), d.windows(0, -1, 0, 1), d.windows(0, 6, 0, 1),
            d.windows(0, 0, 0, 0), d.windows(0, 0, 0, 121), d.windows(0, 0, -1, 1), d.windows(0, 0, 43200, 1),
            d.windows(0, 0, 43199, 2), d.windows(0, 0, Due.MAX, 120), d.windows(0, 0, Due.MIN, 1), d.windows(0, 0, 0, Due.MIN));
        due.row("as before", Due.row(5, 7), d.window(0, false), d.window(0, true));
        due.is("the last minute alone", d.windows(0, 0, 43199, 1), 1);
    }

    private static void wrong() {
        TideDesk d = new TideDesk();
        d.survey(0, 1);
        d.shoal(0, 1000, 0);
        d.leg(0, 0, 0, NO_MARK);
        d.ship(1, 0, 100, 0, 0, 0);
        d.ship(2, 0, 100, 0, 0, 0);
        d.ship(1, 0, 0, 0, 0, 0);
        due.row("before", Due.row(0, 0), d.wrong(0), d.wrong(1));
        due.is("NULL on DAY 0", d.windows(0, 0, 1430, 20), 1);
        due.row("window", Due.row(1440, 1449), d.window(0, false), d.window(0, true));
        due.row("wrong, FINDINGS", Due.row(10, 1, 1, 10), d.wrong(0), d.wrong(1), d.finding(), d.count(8));
        due.is("ZERO always", d.windows(1, 0, 0, 7), 0);
        due.row("wrong, FINDINGS", Due.row(7, 4, 4, 17), d.wrong(0), d.wrong(1), d.finding(), d.count(8));
        due.is("NO always", d.windows(2, 0, 0, 7), 0);
        due.row("no FINDING; that of before", Due.row(0, 0, 4, 17), d.wrong(0), d.wrong(1), d.finding(), d.count(8));
        d.windows(1, 0, 0, 7);
        d.windows(1, 0, 0, 0);
        due.row("BAD leaves it", Due.row(7, 4), d.wrong(0), d.wrong(1));
        due.all("wrong BAD", Due.BAD, d.wrong(-1), d.wrong(2));
    }
}
