/** Promises 1 to 8. */
public final class WavesTest {
    private static final Due due = new Due("WavesTest");

    public static void main(String[] args) {
        newObject();
        clock();
        mean();
        wave();
        survey();
        cos();
        height();
        heightsOfManyWaves();
        force();
        due.end();
    }

    private static void newObject() {
        TideDesk d = new TideDesk();
        for (int what = 0; what <= 8; what++) due.is("count(" + what + ")", d.count(what), 0);
        due.all("at first 0", 0, d.finding(), d.lacking(), d.asked(), d.tries(), d.held(0), d.held(1), d.wrong(0),
            d.wrong(1));
        due.all("at first NONE", Due.NONE, d.trace(0), d.window(0, false), d.window(0, true), d.found(0, 0, 0),
            d.spring(0, true));
        due.is("digest", d.digest(), 7);
        due.all("names nothing", Due.BAD, d.out(0, true), d.dredge(0, 0, 0), d.ask(0, 0), d.planned(0, 0));
        due.all("MEANS", 0, d.mean(0, 0), d.mean(11, 0));
        due.row("rules", Due.row(5, 12, 10), d.rule(0, 1), d.rule(1, 1), d.rule(2, 1));
        due.is("FLEETS are NOTHING", d.member(3, 0), Due.NULL);
        due.is("plan of none", d.plan(), 0);
    }

    private static void clock() {
        TideDesk d = new TideDesk();
        due.all("clock", 1, d.clock(0), d.clock(0), d.clock(50), d.clock(50));
        due.all("clock back, or no MOMENT", Due.BAD, d.clock(49), d.clock(-1), d.clock(2592000), d.clock(Due.MIN),
            d.clock(Due.MAX));
        due.is("NOW", d.count(0), 50);
        due.is("the last", d.clock(Due.LAST_MOMENT), 1);
        due.is("NOW", d.count(0), Due.LAST_MOMENT);
    }

    private static void mean() {
        TideDesk d = new TideDesk();
        due.row("mean", Due.row(0, 2000, -2000, 7), d.mean(3, 2000), d.mean(3, -2000), d.mean(3, 7), d.mean(3, 7));
        due.all("mean BAD", -100000, d.mean(3, 2001), d.mean(3, -2001), d.mean(-1, 0), d.mean(12, 0), d.mean(3, Due.MIN));
        due.row("of each STATION", Due.row(7, 0, 0), d.mean(3, 8), d.mean(0, 1), d.mean(11, 1));
        d.survey(3, 0);
        due.is("behind a SURVEY", d.mean(3, 0), 0);
        due.is("another DRAFT stays", d.mean(0, 0), 1);
    }

    private static void wave() {
        TideDesk d = new TideDesk();
        due.row("wave", Due.row(1, 2, 3), d.wave(0, 0, 0, 0), d.wave(0, 9999, 60000, 65535), d.wave(0, 1, 1, 1));
        due.all("wave BAD", Due.BAD, d.wave(-1, 0, 0, 0), d.wave(12, 0, 0, 0), d.wave(0, -1, 0, 0), d.wave(0, 10000, 0, 0),
            d.wave(0, 0, -1, 0), d.wave(0, 0, 60001, 0), d.wave(0, 0, 0, -1), d.wave(0, 0, 0, 65536));
        for (int i = 4; i <= 8; i++) due.is("wave", d.wave(0, 1, 1, 1), i);
        due.is("a 9th", d.wave(0, 1, 1, 1), Due.FULL);
        due.is("BAD ahead of FULL", d.wave(0, -1, 1, 1), Due.BAD);
        due.is("another STATION", d.wave(1, 1, 1, 1), 1);
        d.survey(0, 0);
        due.is("behind a SURVEY", d.wave(0, 1, 1, 1), 1);
    }

    private static void survey() {
        TideDesk d = new TideDesk();
        due.all("survey BAD", Due.BAD, d.survey(-1, 0), d.survey(12, 0), d.survey(0, -1), d.survey(0, 30));
        for (int i = 1; i <= 60; i++) due.is("survey", d.survey(i % 12, i % 30), i);
        due.is("SURVEYS", d.count(1), 60);
        d.mean(0, 9);
        due.is("a 61st", d.survey(0, 0), Due.FULL);
        due.is("BAD ahead of FULL", d.survey(0, 30), Due.BAD);
        due.is("the DRAFT stays", d.mean(0, 9), 9);
    }

    private static void cos() {
        TideDesk d = new TideDesk();
        due.is("cos(0)", d.cos(0), Due.real(1.0));
        due.is("cos(32768)", d.cos(32768), Due.real(-1.0));
        due.is("cos(16384)", d.cos(16384), 4537922380433588224L);
        due.is("cos(16385)", d.cos(16385), -4674845195534114816L);
        for (int a : new int[] {0, 1, 2, 8192, 12345, 16383, 16384, 16385, 20000, 32767, 32768}) {
            due.is("cos(-" + a + ")", d.cos(-a), d.cos(a));
            due.is("a turn more", d.cos(a + 65536), d.cos(a));
            due.is("turns less", d.cos(a - 65536 * 32767), d.cos(a));
            double x = Math.min(a, 32768 - a) / 16384.0;
            double y = x * x;
            double c = 1.0 - y * (1.2337005501361697
                - y * (0.253669507901048 - y * (0.020863480763353 - y * 0.000919260274839426)));
            due.is("cos(" + a + ")", d.cos(a), Due.real(a > 16384 ? -c : c));
        }
        due.is("the least", d.cos(Due.MIN), Due.real(1.0));
        due.is("the greatest", d.cos(Due.MAX), d.cos(-1));
    }

    private static void height() {
        TideDesk d = new TideDesk();
        due.is("no SURVEY", d.height(0, 0, 0), Due.NO_REAL);
        due.is("NULL", d.finding(), 1);
        d.mean(0, -333);
        d.survey(0, 1);
        due.is("before its DAY", d.height(0, 86399, 0), Due.NO_REAL);
        due.is("a FINDING more", d.count(8), 2);
        due.is("from its DAY on", d.height(0, 86400, 0), Due.real(-333 / 100.0));
        due.is("the last MOMENT", d.height(0, Due.LAST_MOMENT, 0), Due.real(-333 / 100.0));
        due.is("another STATION", d.height(1, 86400, 0), Due.NO_REAL);
        due.is("a FINDING more", d.count(8), 3);
        due.all("height BAD", Due.NO_REAL, d.height(-1, 86400, 0), d.height(12, 86400, 0), d.height(0, -1, 0),
            d.height(0, 2592000, 0), d.height(0, 86400, 1), d.height(0, 86400, -1));
        due.is("BAD is no FINDING", d.count(8), 3);
        d.clock(500);
        d.mean(0, 50);
        d.survey(0, 1);
        due.is("not KNOWN yet", d.height(0, 86400, 499), Due.real(-333 / 100.0));
        due.is("KNOWN", d.height(0, 86400, 500), Due.real(0.5));
        d.mean(0, 0);
        d.survey(0, 2);
        due.is("a height of nothing", d.height(0, 172800, 500), Due.real(0.0));
    }

    private static void heightsOfManyWaves() {
        TideDesk d = new TideDesk();
        int[][] waves = {{9999, 60000, 65535}, {1, 1, 1}, {1234, 1466, 40000}, {500, 999, 20000}};
        d.mean(2, 123);
        for (int[] w : waves) d.wave(2, w[0], w[1], w[2]);
        d.survey(2, 0);
        for (int t : new int[] {0, 1, 999, 1000, 35791, 35792, 71583, 2000000, Due.LAST_MOMENT}) {
            double h = 123 / 100.0;
            for (int[] w : waves) {
                long angle = w[2] + (long) w[1] * t / 1000;
                h = h + w[0] / 1000.0 * Double.longBitsToDouble(d.cos((int) (angle % 65536)));
            }
            due.is("height at " + t, d.height(2, t, 0), Due.real(h));
        }
    }

    private static void force() {
        TideDesk d = new TideDesk();
        due.is("no SURVEY", d.force(0, 0, 0), Due.NULL);
        due.is("NULL", d.finding(), 1);
        d.survey(0, 5);
        d.survey(0, 2);
        d.survey(1, 3);
        due.is("before all", d.force(0, 2 * 86400 - 1, 0), Due.NULL);
        due.is("the lesser DAY", d.force(0, 5 * 86400 - 1, 0), 2);
        due.is("the greater DAY, though told first", d.force(0, 5 * 86400, 0), 5);
        d.clock(10);
        d.survey(0, 3);
        due.is("as KNOWN before", d.force(0, 4 * 86400, 9), 2);
        due.is("as KNOWN now", d.force(0, 4 * 86400, 10), 3);
        due.all("force BAD", Due.BAD, d.force(-1, 0, 0), d.force(12, 0, 0), d.force(0, -1, 0), d.force(0, 2592000, 0),
            d.force(0, 0, 11), d.force(0, 0, -1));
    }
}
