/** Promises 9 to 17. */
public final class GaugesTest {
    private static final Due due = new Due("GaugesTest");

    public static void main(String[] args) {
        gauge();
        reading();
        readingsFull();
        out();
        atAndAir();
        compare();
        rule();
        surgeMiddle();
        surgeFades();
        surgeLacks();
        due.end();
    }

    private static void gauge() {
        TideDesk d = new TideDesk();
        due.all("gauge BAD", Due.BAD, d.gauge(-1, 0, 60), d.gauge(12, 0, 60), d.gauge(0, -1, 60), d.gauge(0, 2592000, 60),
            d.gauge(0, 0, 59), d.gauge(0, 0, 7201));
        due.row("gauge", Due.row(0, 1, 2), d.gauge(0, 0, 60), d.gauge(11, Due.LAST_MOMENT, 7200), d.gauge(0, 0, 60));
        for (int i = 3; i < 10; i++) due.is("gauge", d.gauge(0, 0, 60), i);
        due.is("an 11th", d.gauge(0, 0, 60), Due.FULL);
        due.is("BAD ahead of FULL", d.gauge(0, 0, 0), Due.BAD);
        due.is("GAUGES", d.count(2), 10);
    }

    private static void reading() {
        TideDesk d = new TideDesk();
        due.is("names nothing", d.reading(0, 0, 0), Due.BAD);
        d.gauge(0, 100, 60);
        due.is("above NOW", d.reading(0, 0, 0), Due.NO);
        due.all("BAD ahead of NO", Due.BAD, d.reading(0, 32768, 0), d.reading(0, -32769, 0), d.reading(1, 0, 0),
            d.reading(-1, 0, 0));
        d.clock(219);
        due.row("reading", Due.row(1, 2, Due.NO), d.reading(0, 32767, 0), d.reading(0, -32768, 0), d.reading(0, 0, 0));
        d.clock(220);
        due.is("at NOW", d.reading(0, -32767, 0), 3);
        due.row("SHORTS", Due.row(32767, -32768, -32767), d.at(0, 0), d.at(0, 1), d.at(0, 2));
        d.clock(1000);
        d.out(0, true);
        due.is("OUT", d.reading(0, 1, 0), Due.NULL);
        due.is("NULL", d.finding(), 1);
        d.out(0, false);
        due.is("nothing came meanwhile", d.reading(0, 1, 0), 4);
    }

    private static void readingsFull() {
        TideDesk d = new TideDesk();
        d.gauge(0, 0, 60);
        d.clock(119 * 60);
        for (int i = 1; i <= 120; i++) due.is("reading", d.reading(0, i, 0), i);
        due.is("its MOMENT is above NOW", d.reading(0, 1, 0), Due.NO);
        d.clock(120 * 60);
        due.is("a 121st", d.reading(0, 1, 0), Due.FULL);
        d.out(0, true);
        due.is("of one that is OUT, too", d.reading(0, 1, 0), Due.FULL);
        due.is("no FINDING", d.count(8), 0);
        d.out(0, false);
        due.row("the first and the last", Due.row(1, 120, -100002), d.at(0, 0), d.at(0, 119), d.at(0, 120));
    }

    private static void out() {
        TideDesk d = new TideDesk();
        due.all("names nothing", Due.BAD, d.out(0, true), d.out(-1, false));
        d.gauge(0, 0, 60);
        d.gauge(0, 0, 60);
        due.row("out", Due.row(0, 1, 0, 1, 0), d.out(0, false), d.out(0, true), d.out(0, true), d.out(0, false),
            d.out(0, false));
        d.reading(0, 5, 6);
        d.reading(1, 7, 8);
        d.out(0, true);
        due.row("rows of the one alone", Due.row(-100001, 7), d.at(0, 0), d.at(1, 0));
        d.out(0, false);
        due.row("as they were", Due.row(5, 6, -100002), d.at(0, 0), d.air(0, 0), d.at(0, 1));
    }

    private static void atAndAir() {
        TideDesk d = new TideDesk();
        due.is("names nothing", d.at(0, 0), -100000);
        due.is("names nothing", d.air(0, 0), Due.NO_FLOAT);
        due.is("BAD is no FINDING", d.count(8), 0);
        d.gauge(0, 0, 60);
        d.clock(1000);
        due.is("not yet", d.at(0, 0), -100002);
        due.is("INDEX", d.finding(), 2);
        int[] airs = {0, 1 << 31, 1, -1, 0x7f800000, 0xff800000, 0x7f800001, 0x7fc00001, 0xffc00000, 0x80000001};
        for (int i = 0; i < airs.length; i++) d.reading(0, i - 5, airs[i]);
        for (int i = 0; i < airs.length; i++) {
            due.is("at", d.at(0, i), i - 5);
            due.is("air of " + airs[i], d.air(0, i), Due.bits(Float.intBitsToFloat(airs[i])));
        }
        due.all("INDEX", -100002, d.at(0, -1), d.at(0, 10), d.at(0, 120), d.at(0, Due.MAX), d.at(0, Due.MIN));
        due.is("FINDINGS", d.count(8), 6);
        due.all("INDEX", Due.NO_FLOAT, d.air(0, -1), d.air(0, 10), d.air(0, Due.MIN));
        due.is("FINDINGS", d.count(8), 9);
        d.out(0, true);
        due.is("NULL ahead of INDEX", d.at(0, -1), -100001);
        due.is("NULL", d.air(0, 0), Due.NO_FLOAT);
        due.is("NULL", d.finding(), 1);
        due.all("BAD", -100000, d.at(1, 0), d.at(-1, 0));
        due.is("FINDINGS", d.count(8), 11);
    }

    private static void compare() {
        TideDesk d = new TideDesk();
        due.is("names nothing", d.compare(0, 0, 0), Due.BAD);
        d.gauge(0, 0, 60);
        d.clock(1000);
        float[] airs = {0.0f, -0.0f, 1.0f, -1.0f, Float.NaN, Float.POSITIVE_INFINITY, Float.NEGATIVE_INFINITY,
            Float.MIN_VALUE, -Float.MIN_VALUE, 1.5f};
        for (float a : airs) d.reading(0, 0, Due.bits(a));
        for (int i = 0; i < airs.length; i++) {
            for (int j = 0; j < airs.length; j++) {
                float a = airs[i];
                float b = airs[j];
                int sum = (a < b ? 1 : 0) + (a <= b ? 2 : 0) + (a > b ? 4 : 0) + (a >= b ? 8 : 0) + (a == b ? 16 : 0)
                    + (a != b ? 32 : 0);
                due.is("compare " + a + ", " + b, d.compare(0, i, j), sum);
            }
        }
        due.row("by hand", Due.row(26, 35, 44, 32), d.compare(0, 0, 1), d.compare(0, 3, 2), d.compare(0, 2, 3),
            d.compare(0, 4, 4));
        due.all("INDEX", Due.INDEX, d.compare(0, -1, 0), d.compare(0, 0, -1), d.compare(0, 10, 0), d.compare(0, 0, 10));
        d.gauge(0, 0, 60);
        d.reading(1, 0, Due.bits(7.0f));
        d.reading(1, 0, Due.bits(6.0f));
        due.row("of another GAUGE", Due.row(44, 35, Due.bits(6.0f)), d.compare(1, 0, 1), d.compare(1, 1, 0), d.air(1, 1));
        d.out(0, true);
        due.is("NULL", d.compare(0, 0, 99), Due.NULL);
        due.all("BAD", Due.BAD, d.compare(-1, 0, 0), d.compare(2, 0, 0));
    }

    private static void rule() {
        TideDesk d = new TideDesk();
        due.row("TAKE", Due.row(5, 9, 1), d.rule(0, 9), d.rule(0, 1), d.rule(0, 5));
        due.row("FADE", Due.row(12, 48, 1), d.rule(1, 48), d.rule(1, 1), d.rule(1, 12));
        due.row("STEPS", Due.row(10, 60, 1), d.rule(2, 60), d.rule(2, 1), d.rule(2, 10));
        due.all("rule BAD", Due.BAD, d.rule(0, 0), d.rule(0, 10), d.rule(1, 0), d.rule(1, 49), d.rule(2, 0), d.rule(2, 61),
            d.rule(-1, 1), d.rule(3, 1));
        due.row("as they were", Due.row(5, 12, 10), d.rule(0, 5), d.rule(1, 12), d.rule(2, 10));
    }

    /** READINGS each minute at a STATION whose HEIGHT is 0.5 always; asked at a MOMENT of a READING with FADE of 1. */
    private static TideDesk gauged(int... shorts) {
        TideDesk d = new TideDesk();
        Due.level(d, 0, 50);
        d.gauge(0, 0, 60);
        d.clock(6000);
        for (int v : shorts) d.reading(0, v, 0);
        return d;
    }

    private static void surgeMiddle() {
        TideDesk d = gauged(900, 100, 300, 200, -32768, 500, 400);
        due.is("one", d.surge(0, 0), Due.real(9.0 - 0.5));
        due.is("of two the lesser", d.surge(0, 60), Due.real(1.0 - 0.5));
        due.is("of three", d.surge(0, 120), Due.real(3.0 - 0.5));
        due.is("of four", d.surge(0, 180), Due.real(2.0 - 0.5));
        due.is("none lacks", d.lacking(), 0);
        double aged = (2.0 - 0.5) * ((12 * 3600 - 60) / (12 * 3600.0));
        due.is("one of the last five is not there", d.surge(0, 240), Due.real(aged));
        due.is("lacking", d.lacking(), 1);
        due.is("the first one is not taken", d.surge(0, 300), Due.real(2.0 - 0.5));
        due.is("four of 300, 200, 500, 400", d.surge(0, 360), Due.real(3.0 - 0.5));
        d.rule(0, 1);
        due.is("the last alone", d.surge(0, 360), Due.real(4.0 - 0.5));
        due.is("none lacks", d.lacking(), 0);
        due.is("no number is there", d.surge(0, 299), Due.NO_REAL);
        due.is("LACK", d.finding(), 7);
        due.is("lacking", d.lacking(), 1);
        d.rule(0, 9);
        due.is("all", d.surge(0, 360), Due.real(3.0 - 0.5));
        due.all("surge BAD", Due.NO_REAL, d.surge(-1, 0), d.surge(1, 0), d.surge(0, -1), d.surge(0, 2592000));
        due.is("BAD is no FINDING", d.count(8), 1);
    }

    private static void surgeFades() {
        TideDesk d = gauged(250);
        double two = 2.5 - 0.5;
        due.is("half way", d.surge(0, 6 * 3600), Due.real(two * ((43200 - 21600) / 43200.0)));
        due.is("nearly gone", d.surge(0, 43199), Due.real(two * (1 / 43200.0)));
        due.is("gone", d.surge(0, 43200), 0);
        due.is("for ever", d.surge(0, Due.LAST_MOMENT), 0);
        d.rule(1, 1);
        due.is("FADE of 1", d.surge(0, 3599), Due.real(two * (1 / 3600.0)));
        due.is("gone", d.surge(0, 3600), 0);
        d.rule(1, 48);
        due.is("FADE of 48", d.surge(0, 43200), Due.real(two * ((172800 - 43200) / 172800.0)));
        TideDesk low = gauged(-150);
        due.is("below", low.surge(0, 21600), Due.real((-1.5 - 0.5) * (21600 / 43200.0)));
        TideDesk even = gauged(50);
        due.is("as high as reckoned", even.surge(0, 60), 0);
    }

    private static void surgeLacks() {
        TideDesk d = new TideDesk();
        d.gauge(0, 600, 60);
        d.clock(90000);
        due.is("no READING", d.surge(0, 600), Due.NO_REAL);
        due.row("LACK", Due.row(7, 0), d.finding(), d.lacking());
        d.reading(0, 100, 0);
        d.reading(0, -32768, 0);
        d.reading(0, 100, 0);
        due.is("no SURVEY", d.surge(0, 1000), Due.NO_REAL);
        due.row("LACK", Due.row(7, 3), d.finding(), d.lacking());
        d.survey(0, 1);
        due.is("a SURVEY that is not in FORCE then", d.surge(0, 1000), Due.NO_REAL);
        due.is("lacking", d.lacking(), 3);
        due.is("before the first", d.surge(0, 599), Due.NO_REAL);
        due.is("none looked at", d.lacking(), 0);
        d.mean(0, 25);
        d.survey(0, 0);
        due.is("two of three", d.surge(0, 720), Due.real(1.0 - 0.25));
        due.is("lacking", d.lacking(), 1);
        int findings = d.count(8);
        d.out(0, true);
        due.is("OUT", d.surge(0, 660), Due.NO_REAL);
        due.row("NULL, which leaves lacking()", Due.row(1, 1, findings + 1), d.finding(), d.lacking(), d.count(8));
        d.out(0, false);
        d.shoal(0, 0, 0);
        d.rule(0, 1);
        due.is("WATER with its SURGE", d.water(0, 600), Due.real(0.0 + 0.25 + 0.75));
        due.is("WATER's SURGES apart", d.lacking(), 1);
        due.is("the last one is none", d.surge(0, 660), Due.NO_REAL);
        due.is("lacking", d.lacking(), 1);
        due.is("there", d.surge(0, 600), Due.real(0.75));
        due.is("lacking", d.lacking(), 0);
    }
}
