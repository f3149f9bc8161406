/** Promises 22 to 27. */
public final class WatersTest {
    private static final Due due = new Due("WatersTest");

    public static void main(String[] args) {
        watersOfOneWave();
        watersOfStairs();
        watersKept();
        watersRefused();
        heightsAsTheyWereThen();
        found();
        range();
        spring();
        tide();
        stream();
        streamOfTheNearest();
        stationsApart();
        foundAnew();
        due.end();
    }

    /** A wave of 1 metre with a HIGH each 65536000 / speed seconds. */
    private static TideDesk waving(int speed, int phase) {
        TideDesk d = new TideDesk();
        d.mean(0, 100);
        d.wave(0, 1000, speed, phase);
        d.survey(0, 0);
        return d;
    }

    private static void watersOfOneWave() {
        TideDesk d = waving(8192, 0);
        due.is("waters", d.waters(0, 0, 30), 4);
        due.row("MOMENTS", Due.row(4000, 8000, 12000, 16000), d.found(0, 0, 0), d.found(0, 1, 0), d.found(0, 2, 0),
            d.found(0, 3, 0));
        due.row("HIGH", Due.row(0, 1, 0, 1), d.found(0, 0, 1), d.found(0, 1, 1), d.found(0, 2, 1), d.found(0, 3, 1));
        due.is("neither the first nor the last", d.waters(0, 4000, 11), 1);
        due.is("found", d.found(0, 0, 0), 8000);
        d.rule(2, 1);
        due.is("STEPS of a minute", d.waters(0, 0, 200), 2);
        due.row("MOMENTS", Due.row(4000, 8000), d.found(0, 0, 0), d.found(0, 1, 0));
        d.rule(2, 60);
        due.is("STEPS of an hour", d.waters(0, 3600, 3), 1);
        due.row("found", Due.row(8000, 1), d.found(0, 0, 0), d.found(0, 0, 1));
        due.is("a level STATION", levelWaters(), 0);
    }

    /** STATION 0 has its HIGHS at 8000 and 16000, 11 at 1000 less. */
    private static void stationsApart() {
        TideDesk d = waving(8192, 0);
        d.mean(11, 500);
        d.wave(11, 2000, 8192, 8192);
        d.survey(11, 0);
        d.rule(2, 20);
        due.row("waters", Due.row(40, 4), d.waters(11, 0, 200), d.waters(0, 0, 15));
        due.row("MOMENTS", Due.row(3000, 7000, 159000, 4000, 8000), d.found(11, 0, 0), d.found(11, 1, 0), d.found(11, 39, 0),
            d.found(0, 0, 0), d.found(0, 1, 0));
        due.row("RANGES", Due.row(Due.real(4.0), Due.real(2.0)), d.range(11, 38), d.range(0, 0));
        due.row("SPRINGS", Due.row(0, 0), d.spring(11, true), d.spring(0, true));
        d.tide(11, 0, Due.bits(3.0f));
        d.tide(0, 0, Due.bits(4.0f));
        due.row("STREAMS", Due.row(Due.bits(3.0f), 0, Due.bits(4.0f), 0), d.stream(11, 5200), d.stream(11, 8800), d.stream(0, 9799),
            d.stream(0, 6199));
    }

    /** What an earlier search has found is forgotten, though it found more. */
    private static void foundAnew() {
        TideDesk d = waving(8192, 0);
        d.wave(0, 300, 2000, 1000);
        d.wave(0, 1000, 8192, 0);
        d.survey(0, 0);
        d.waters(0, 0, 200);
        due.is("the greatest RANGE is not the first", d.spring(0, true) > 0 ? 1 : 0, 1);
        d.mean(0, 300);
        d.wave(0, 1000, 8192, 4);
        d.survey(0, 0);
        due.is("one HIGH", d.waters(0, 4800, 10), 1);
        due.row("found", Due.row(8000, 1, Due.NONE), d.found(0, 0, 0), d.found(0, 0, 1), d.found(0, 1, 0));
        due.all("no RANGE", Due.NONE, d.spring(0, true), d.spring(0, false));
        d.tide(0, 2, Due.bits(2.0f));
        due.is("from the one HIGH", d.stream(0, 8000 + 7200), Due.bits(2.0f));
        due.is("a LOW behind it", d.waters(0, 4800, 14), 2);
        due.row("SPRING, NEAP", Due.row(0, 0), d.spring(0, true), d.spring(0, false));
        d.mean(11, 500);
        d.wave(11, 2000, 8192, 8192);
        d.survey(11, 0);
        d.waters(11, 0, 3);
        due.all("none of another STATION's", Due.NONE, d.spring(11, true), d.spring(11, false));
        double high = Double.longBitsToDouble(d.height(0, d.found(0, 0, 0), 0));
        double low = Double.longBitsToDouble(d.height(0, d.found(0, 1, 0), 0));
        due.is("HIGH and LOW", d.range(0, 0), Due.real(high - low));
        due.is("a HIGH more", d.waters(0, 4800, 22), 3);
        d.tide(0, 1, Due.bits(1.0f));
        due.is("the first is nearer", d.stream(0, 11999), Due.bits(1.0f));
    }

    private static int levelWaters() {
        TideDesk d = new TideDesk();
        Due.level(d, 0, 100);
        return d.waters(0, 0, 200);
    }

    /** Heights that stand for 1000 seconds each: of like ones the first is HIGH or LOW. */
    private static void watersOfStairs() {
        TideDesk down = waving(1, 1);
        down.rule(2, 1);
        due.is("stairs down", down.waters(0, 0, 60), 3);
        due.row("LOW", Due.row(0, 0, 0), down.found(0, 0, 1), down.found(0, 1, 1), down.found(0, 2, 1));
        due.row("by HALVING", Due.row(961, 1981, 2941), down.found(0, 0, 0), down.found(0, 1, 0), down.found(0, 2, 0));
        TideDesk up = waving(1, 65533);
        up.rule(2, 1);
        due.is("stairs up, and down", up.waters(0, 0, 70), 4);
        due.row("HIGH", Due.row(1, 1, 1, 0), up.found(0, 0, 1), up.found(0, 1, 1), up.found(0, 2, 1), up.found(0, 3, 1));
        due.row("by HALVING", Due.row(961, 1981, 2941, 3961), up.found(0, 0, 0), up.found(0, 1, 0), up.found(0, 2, 0),
            up.found(0, 3, 0));
    }

    private static void watersKept() {
        TideDesk d = waving(32768, 0);
        d.rule(2, 5);
        due.is("40 are kept", d.waters(0, 0, 200), 40);
        for (int i = 0; i < 40; i++) {
            due.is("MOMENT " + i, d.found(0, i, 0), 1000 * (i + 1));
            due.is("HIGH " + i, d.found(0, i, 1), i % 2);
        }
        due.is("no more", d.found(0, 40, 0), Due.NONE);
        due.is("the last RANGE", d.range(0, 38), Due.real(2.0));
        due.is("no more", d.range(0, 39), Due.NO_REAL);
        due.is("another STATION's", d.found(1, 0, 0), Due.NONE);
    }

    private static void watersRefused() {
        TideDesk d = new TideDesk();
        due.is("no SURVEY", d.waters(0, 0, 3), Due.NULL);
        due.row("NULL", Due.row(1, 1), d.finding(), d.count(8));
        d.wave(0, 1000, 8192, 0);
        d.survey(0, 1);
        due.is("from its DAY on", d.waters(0, 86400, 30), 4);
        due.is("found", d.found(0, 0, 0), 88000);
        due.is("the first MOMENT is before it", d.waters(0, 86399, 30), Due.NULL);
        due.is("WATERS of before stay", d.found(0, 0, 0), 88000);
        int last = Due.LAST_MOMENT - 2 * 600;
        due.is("up to the last MOMENT", d.waters(0, last, 3) >= 0 ? 1 : 0, 1);
        d.waters(0, 86400, 30);
        due.all("waters BAD", Due.BAD, d.waters(0, last + 1, 3), d.waters(-1, 86400, 30), d.waters(12, 86400, 30),
            d.waters(0, -1, 30), d.waters(0, 2592000, 3), d.waters(0, 86400, 2), d.waters(0, 86400, 201),
            d.waters(0, 86400, Due.MAX), d.waters(0, Due.MAX, 200), d.waters(0, 0, -1));
        due.is("WATERS of before stay", d.found(0, 0, 0), 88000);
        due.is("FINDINGS", d.count(8), 2);
        due.is("n of 200", d.waters(0, 86400, 200) > 4 ? 1 : 0, 1);
    }

    private static void heightsAsTheyWereThen() {
        TideDesk d = waving(8192, 0);
        d.waters(0, 0, 30);
        long was = d.range(0, 0);
        due.is("RANGE", was, Due.real(2.0));
        d.wave(0, 5000, 8192, 0);
        d.survey(0, 0);
        due.is("as it was then", d.range(0, 0), was);
        d.waters(0, 0, 30);
        due.is("found anew", d.range(0, 0), Due.real(10.0));
    }

    private static void found() {
        TideDesk d = waving(8192, 0);
        d.waters(0, 0, 30);
        due.all("found BAD", Due.BAD, d.found(-1, 0, 0), d.found(12, 0, 0), d.found(0, 0, -1), d.found(0, 0, 2),
            d.found(0, 99, 2));
        due.all("none such", Due.NONE, d.found(0, -1, 0), d.found(0, 4, 0), d.found(0, 4, 1), d.found(0, Due.MAX, 0),
            d.found(1, 0, 0));
    }

    private static void range() {
        TideDesk d = new TideDesk();
        due.is("no WATERS", d.range(0, 0), Due.NO_REAL);
        d = waving(8192, 0);
        d.waters(0, 0, 30);
        due.row("RANGES", Due.row(Due.real(2.0), Due.real(2.0), Due.real(2.0)), d.range(0, 0), d.range(0, 1), d.range(0, 2));
        due.all("range BAD", Due.NO_REAL, d.range(0, 3), d.range(0, -1), d.range(0, Due.MAX), d.range(0, Due.MIN),
            d.range(-1, 0), d.range(12, 0), d.range(1, 0));
        due.is("BAD is no FINDING", d.count(8), 0);
        TideDesk up = waving(1, 65533);
        up.rule(2, 1);
        up.waters(0, 0, 70);
        due.is("HIGH and HIGH", up.range(0, 0), Due.NO_REAL);
        due.row("LACK", Due.row(7, 1), up.finding(), up.count(8));
        double high = Double.longBitsToDouble(up.height(0, 2941, 0));
        double low = Double.longBitsToDouble(up.height(0, 3961, 0));
        due.is("HIGH and LOW, the greater less the lesser", up.range(0, 2), Due.real(Math.max(high, low) - Math.min(high, low)));
    }

    private static void spring() {
        TideDesk d = new TideDesk();
        due.all("spring BAD", Due.BAD, d.spring(-1, true), d.spring(12, false));
        due.all("no RANGE", Due.NONE, d.spring(0, true), d.spring(0, false));
        d = waving(8192, 0);
        d.waters(0, 0, 30);
        due.all("of like ones the first", 0, d.spring(0, true), d.spring(0, false));
        TideDesk stairs = waving(1, 1);
        stairs.rule(2, 1);
        stairs.waters(0, 0, 60);
        due.all("LOWS alone", Due.NONE, stairs.spring(0, true), stairs.spring(0, false));
        due.is("no FINDING", stairs.count(8), 0);
        d = new TideDesk();
        d.wave(0, 1000, 8192, 0);
        d.wave(0, 400, 7000, 20000);
        d.survey(0, 0);
        int many = d.waters(0, 0, 200);
        int great = 0;
        int least = 0;
        for (int i = 1; i < many - 1; i++) {
            double r = Double.longBitsToDouble(d.range(0, i));
            if (r > Double.longBitsToDouble(d.range(0, great))) great = i;
            if (r < Double.longBitsToDouble(d.range(0, least))) least = i;
        }
        due.is("they differ", great != least && great > 0 && least > 0 ? 1 : 0, 1);
        due.row("SPRING, NEAP", Due.row(great, least), d.spring(0, true), d.spring(0, false));
    }

    private static void tide() {
        TideDesk d = new TideDesk();
        due.all("tide", 1, d.tide(0, -6, Due.bits(20.0f)), d.tide(11, 6, Due.bits(-20.0f)), d.tide(0, 0, 0),
            d.tide(0, 0, Due.bits(-0.0f)));
        due.all("tide BAD", Due.BAD, d.tide(-1, 0, 0), d.tide(12, 0, 0), d.tide(0, -7, 0), d.tide(0, 7, 0),
            d.tide(0, 0, Due.bits(20.0f) + 1), d.tide(0, 0, Due.bits(-20.0f) + 1), d.tide(0, 0, Due.NO_FLOAT),
            d.tide(0, 0, -1), d.tide(0, 0, Due.bits(Float.POSITIVE_INFINITY)),
            d.tide(0, 0, Due.bits(Float.NEGATIVE_INFINITY)));
    }

    private static void stream() {
        TideDesk d = waving(1024, 0);
        due.is("no HIGH", d.stream(0, 0), Due.NO_FLOAT);
        due.row("LACK", Due.row(7, 1), d.finding(), d.count(8));
        d.waters(0, 0, 60);
        due.is("a LOW alone", d.found(0, 0, 0), 32000);
        due.is("is no HIGH", d.stream(0, 32000), Due.NO_FLOAT);
        due.is("LACK", d.finding(), 7);
        d.waters(0, 0, 200);
        due.is("the HIGH", d.found(0, 1, 0), 64000);
        due.is("0.0 at first", d.stream(0, 64000), 0);
        for (int hour = -6; hour <= 6; hour++) d.tide(0, hour, Due.bits(hour + 0.5f));
        d.tide(1, 0, Due.bits(9.0f));
        for (int hour = -6; hour <= 6; hour++) {
            due.is("hour " + hour + " begins", d.stream(0, 64000 + hour * 3600 - 1800), Due.bits(hour + 0.5f));
            due.is("hour " + hour + " ends", d.stream(0, 64000 + hour * 3600 + 1799), Due.bits(hour + 0.5f));
        }
        due.is("before the hours", d.stream(0, 64000 - 6 * 3600 - 1801), Due.NO_FLOAT);
        due.row("INDEX", Due.row(2, 3), d.finding(), d.count(8));
        due.is("behind the hours", d.stream(0, 64000 + 6 * 3600 + 1800), Due.NO_FLOAT);
        due.row("INDEX", Due.row(2, 4), d.finding(), d.count(8));
        d.tide(0, 0, Due.bits(-0.0f));
        due.is("-0.0", d.stream(0, 64000), Due.bits(-0.0f));
        due.all("stream BAD", Due.NO_FLOAT, d.stream(-1, 64000), d.stream(12, 64000), d.stream(0, -1), d.stream(0, 2592000));
        due.is("BAD is no FINDING", d.count(8), 4);
    }

    private static void streamOfTheNearest() {
        TideDesk d = waving(8192, 0);
        d.waters(0, 0, 30);
        for (int hour = -6; hour <= 6; hour++) d.tide(0, hour, Due.bits(hour));
        due.is("of as near ones the earlier", d.stream(0, 12000), Due.bits(1.0f));
        due.is("nearer to the first", d.stream(0, 11999), Due.bits(1.0f));
        due.is("nearer to the second", d.stream(0, 12001), Due.bits(-1.0f));
        due.is("ahead of all", d.stream(0, 0), Due.bits(-2.0f));
    }
}
