/** Promises 18 to 21. */
public final class ShoalsTest {
    private static final Due due = new Due("ShoalsTest");

    public static void main(String[] args) {
        shoal();
        dredge();
        depth();
        water();
        waterOfTheFirstGauge();
        due.end();
    }

    private static void shoal() {
        TideDesk d = new TideDesk();
        due.all("shoal BAD", Due.BAD, d.shoal(-1, 0, 0), d.shoal(12, 0, 0), d.shoal(0, -1001, 0), d.shoal(0, 5001, 0),
            d.shoal(0, 0, -1), d.shoal(0, 0, 7201));
        due.row("shoal", Due.row(0, 1), d.shoal(0, -1000, 0), d.shoal(11, 5000, 7200));
        for (int i = 2; i < 16; i++) due.is("shoal", d.shoal(0, 0, 0), i);
        due.is("a 17th", d.shoal(0, 0, 0), Due.FULL);
        due.is("BAD ahead of FULL", d.shoal(12, 0, 0), Due.BAD);
        due.row("SHOALS, DREDGINGS", Due.row(16, 0), d.count(3), d.count(4));
    }

    private static void dredge() {
        TideDesk d = new TideDesk();
        due.is("names nothing", d.dredge(0, 0, 0), Due.BAD);
        d.shoal(0, 0, 0);
        due.all("dredge BAD", Due.BAD, d.dredge(-1, 0, 0), d.dredge(1, 0, 0), d.dredge(0, -1, 0), d.dredge(0, 30, 0),
            d.dredge(0, 0, -1001), d.dredge(0, 0, 5001));
        due.row("dredge", Due.row(1, 2), d.dredge(0, 0, -1000), d.dredge(0, 29, 5000));
        for (int i = 3; i <= 60; i++) due.is("dredge", d.dredge(0, 0, 0), i);
        due.is("a 61st", d.dredge(0, 0, 0), Due.FULL);
        due.is("BAD ahead of FULL", d.dredge(0, 30, 0), Due.BAD);
        for (int i = 1; i < 16; i++) due.is("SHOALS have room of their own", d.shoal(0, i, 0), i);
        Due.level(d, 0, 0);
        due.is("the last one's BED", d.depth(15, 0, 0), Due.real(0.15));
        due.is("DREDGINGS", d.count(4), 60);
    }

    private static void depth() {
        TideDesk d = new TideDesk();
        due.is("names nothing", d.depth(0, 0, 0), Due.NO_REAL);
        due.is("no FINDING", d.count(8), 0);
        d.clock(100);
        Due.level(d, 0, 30);
        d.clock(200);
        d.shoal(0, 411, 0);
        due.is("as KNOWN before the SHOAL", d.depth(0, 0, 199), Due.NO_REAL);
        due.row("NULL", Due.row(1, 1), d.finding(), d.count(8));
        due.is("from DAY 0 on", d.depth(0, 0, 200), Due.real(4.11 + 0.3));
        d.shoal(1, 0, 0);
        due.is("no SURVEY", d.depth(1, 0, 200), Due.NO_REAL);
        due.is("NULL", d.count(8), 2);
        d.clock(300);
        d.dredge(0, 2, -70);
        d.dredge(0, 1, 500);
        due.is("before the DREDGING", d.depth(0, 86399, 300), Due.real(4.11 + 0.3));
        due.is("from DAY 1 on", d.depth(0, 86400, 300), Due.real(5.0 + 0.3));
        due.is("from DAY 2 on", d.depth(0, 172800, 300), Due.real(-0.7 + 0.3));
        due.is("as KNOWN before", d.depth(0, 172800, 299), Due.real(4.11 + 0.3));
        d.dredge(0, 2, 600);
        due.is("of like DAYS the one told last", d.depth(0, 172800, 300), Due.real(6.0 + 0.3));
        d.dredge(0, 0, 700);
        due.is("a DREDGING from DAY 0 on", d.depth(0, 0, 300), Due.real(7.0 + 0.3));
        due.all("depth BAD", Due.NO_REAL, d.depth(-1, 0, 0), d.depth(2, 0, 0), d.depth(0, -1, 300), d.depth(0, 2592000, 300),
            d.depth(0, 0, 301), d.depth(0, 0, -1));
        due.is("BAD is no FINDING", d.count(8), 2);
    }

    private static void water() {
        TideDesk d = new TideDesk();
        d.shoal(0, 100, 0);
        due.is("no SURVEY", d.water(0, 0), Due.NO_REAL);
        due.is("NULL", d.finding(), 1);
        Due.level(d, 0, 50);
        due.is("no GAUGE", d.water(0, 0), Due.real(1.0 + 0.5));
        d.gauge(0, 0, 60);
        d.clock(7200);
        due.is("no READING", d.water(0, 0), Due.real(1.5));
        d.reading(0, -32768, 0);
        due.is("none that is there", d.water(0, 60), Due.real(1.5));
        d.reading(0, 133, 0);
        due.is("with the SURGE", d.water(0, 60), Due.real(1.0 + 0.5 + (1.33 - 0.5)));
        double faded = (1.33 - 0.5) * ((43200 - 3600) / 43200.0);
        due.is("that fades", d.water(0, 3660), Due.real(1.0 + 0.5 + faded));
        d.out(0, true);
        due.is("a GAUGE that is OUT", d.water(0, 60), Due.real(1.5));
        due.is("what lacks is no FINDING", d.count(8), 1);
        due.all("water BAD", Due.NO_REAL, d.water(-1, 0), d.water(1, 0), d.water(0, -1), d.water(0, 2592000));
        due.is("BAD is no FINDING", d.count(8), 1);
        d.dredge(0, 0, 200);
        due.is("as KNOWN NOW", d.water(0, 60), Due.real(2.5));
    }

    private static void waterOfTheFirstGauge() {
        TideDesk d = new TideDesk();
        Due.level(d, 0, 0);
        Due.level(d, 1, 0);
        d.shoal(1, 0, 0);
        d.gauge(0, 0, 60);
        d.gauge(1, 0, 60);
        d.gauge(1, 0, 60);
        d.reading(0, 100, 0);
        d.reading(2, 300, 0);
        due.is("the first one of the STATION has no READING", d.water(0, 0), 0);
        d.reading(1, 200, 0);
        due.is("the first one of the STATION", d.water(0, 0), Due.real(2.0));
        d.out(1, true);
        due.is("it is OUT", d.water(0, 0), 0);
        while (d.count(2) < 10) d.gauge(0, 0, 60);
        Due.level(d, 2, 0);
        d.shoal(2, 700, 0);
        due.is("ten GAUGES, none of the STATION", d.water(1, 0), Due.real(7.0));
    }
}
