/** The edges that section 1 and promises 2 to 8 name, each with what lies on both sides of it. */
public final class WavesEdgesTest {
    private static final Due due = new Due("WavesEdgesTest");
    private static final int DAY = 86400, LAST = Due.LAST_MOMENT;

    public static void main(String[] args) {
        nowDoesNotGoBack();
        cosFolds();
        cosTurns();
        meanInHundredths();
        eightWaves();
        wavesInOrder();
        wavesDoNotWrap();
        phaseAndSpeedAreCut();
        draftAsItIsThen();
        draftOfEachStation();
        sixtySurveys();
        fromADayOn();
        knownFromTheNowOn();
        greatestDay();
        toldLast();
        knownBeforeToldLast();
        nullWithoutOne();
        due.end();
    }

    private static TideDesk waving(int size, int speed, int phase) {
        TideDesk d = new TideDesk();
        d.wave(0, size, speed, phase);
        d.survey(0, 0);
        return d;
    }

    private static double cosOf(TideDesk d, int a) {
        return Double.longBitsToDouble(d.cos(a));
    }

    /** "BAD: also one before NOW." */
    private static void nowDoesNotGoBack() {
        TideDesk d = new TideDesk();
        d.clock(1000);
        due.row("before, at, behind NOW", Due.row(Due.BAD, 1000, 1, 1000, 1, 1001), d.clock(999), d.count(0), d.clock(1000),
            d.count(0), d.clock(1001), d.count(0));
        due.row("the last", Due.row(1, Due.BAD, Due.BAD, 1, LAST), d.clock(LAST), d.clock(LAST - 1), d.clock(LAST + 1),
            d.clock(LAST), d.count(0));
    }

    private static double folded(int k) {
        double x = k / 16384.0;
        double y = x * x;
        return 1.0 - y * (1.2337005501361697 - y * (0.253669507901048 - y * (0.020863480763353 - y * 0.000919260274839426)));
    }

    /** "m is n, but 65536 - n above 32768; k is m, but 32768 - m above 16384; COS is c, with m above 16384 -c." */
    private static void cosFolds() {
        TideDesk d = new TideDesk();
        due.row("about 0", Due.row(Due.real(folded(1)), Due.real(1.0), Due.real(folded(1))), d.cos(65535), d.cos(0), d.cos(1));
        due.row("about 16384", Due.row(Due.real(folded(16383)), Due.real(folded(16384)), Due.real(-folded(16383))), d.cos(16383),
            d.cos(16384), d.cos(16385));
        due.row("about 32768", Due.row(Due.real(-folded(1)), Due.real(-1.0), Due.real(-folded(1))), d.cos(32767), d.cos(32768),
            d.cos(32769));
        due.row("about 49152", Due.row(Due.real(-folded(16383)), Due.real(folded(16384)), Due.real(folded(16383))), d.cos(49151),
            d.cos(49152), d.cos(49153));
        due.is("not quite 0 at 16384", folded(16384) > 0.0 && folded(16384) < folded(16383) ? 1 : 0, 1);
    }

    /** "n is a modulo 65536 (not below 0)". */
    private static void cosTurns() {
        TideDesk d = new TideDesk();
        for (int a : new int[] {-1, 1, 16385, 40000}) {
            due.row("turns of " + a, Due.row(d.cos(a), d.cos(a), d.cos(a), d.cos(a)), d.cos(a + 65536), d.cos(a - 65536),
                d.cos(a + 65536 * 32766), d.cos(a - 65536 * 32766));
        }
        due.row("the ends", Due.row(d.cos(0), d.cos(1), d.cos(65535), d.cos(65534)), d.cos(Due.MIN), d.cos(Due.MIN + 1),
            d.cos(Due.MAX), d.cos(Due.MAX - 1));
        due.row("below 0", Due.row(d.cos(65535), d.cos(49151), d.cos(32768), d.cos(0)), d.cos(-1), d.cos(-16385), d.cos(-32768),
            d.cos(-65536));
    }

    /** "a MEAN (-2000 .. 2000; 0)", "h = MEAN / 100.0". */
    private static void meanInHundredths() {
        for (int v : new int[] {-2000, -1999, -1, 0, 1, 1999, 2000}) {
            TideDesk d = new TideDesk();
            d.mean(0, v);
            d.survey(0, 0);
            due.is("MEAN " + v, d.height(0, 0, 0), Due.real(v / 100.0));
        }
        TideDesk d = new TideDesk();
        d.mean(0, 2000);
        d.mean(0, 2001);
        d.survey(0, 0);
        due.is("what is refused is no MEAN", d.height(0, 0, 0), Due.real(20.0));
    }

    /** "WAVES, 8 at most". */
    private static void eightWaves() {
        for (int many = 0; many <= 9; many++) {
            TideDesk d = new TideDesk();
            for (int i = 1; i <= many; i++) due.is("wave " + i, d.wave(5, 1000, 0, 0), i <= 8 ? i : Due.FULL);
            d.survey(5, 0);
            due.is("HEIGHT of " + many, d.height(5, 0, 0), Due.real(Math.min(8, many)));
        }
    }

    /** "for each WAVE in order": in another order another sum comes. */
    private static void wavesInOrder() {
        int[] sizes = {9999, 7777, 5003, 1, 9998, 13, 777, 2};
        TideDesk d = new TideDesk();
        TideDesk back = new TideDesk();
        double h = -0.07;
        for (int i = 0; i < 8; i++) {
            d.wave(0, sizes[i], 0, 3333 * i);
            back.wave(0, sizes[7 - i], 0, 3333 * (7 - i));
            h = h + sizes[i] / 1000.0 * cosOf(d, 3333 * i);
        }
        d.mean(0, -7);
        back.mean(0, -7);
        d.survey(0, 0);
        back.survey(0, 0);
        due.is("in order", d.height(0, 0, 0), Due.real(h));
        due.is("the other way", back.height(0, 0, 0) == Due.real(h) ? 1 : 0, 0);
    }

    /** "(that in whole numbers that do not wrap)": 60000 * 35791 is below 2 to the 31st, 60000 * 35792 is not. */
    private static void wavesDoNotWrap() {
        TideDesk d = waving(1000, 60000, 65535);
        for (int t : new int[] {0, 1, 35791, 35792, 71582, 71583, LAST - 1, LAST}) {
            long angle = 65535 + 60000L * t / 1000;
            due.is("at " + t, d.height(0, t, 0), Due.real(0.0 + 1.0 * cosOf(d, (int) (angle % 65536))));
        }
        TideDesk odd = waving(1000, 59999, 1);
        for (int t : new int[] {35791, 35792, 35793, LAST}) {
            long angle = 1 + 59999L * t / 1000;
            due.is("odd, at " + t, odd.height(0, t, 0), Due.real(cosOf(odd, (int) (angle % 65536))));
        }
    }

    /** "COS(PHASE + SPEED * t / 1000)", cut: COS(16384) is above 0, COS(16385) below. */
    private static void phaseAndSpeedAreCut() {
        TideDesk d = waving(1000, 1, 16384);
        due.row("a thousand seconds", Due.row(d.cos(16384), d.cos(16384), d.cos(16385), d.cos(16385), d.cos(16386)), d.height(0, 0, 0),
            d.height(0, 999, 0), d.height(0, 1000, 0), d.height(0, 1999, 0), d.height(0, 2000, 0));
        TideDesk fast = waving(1000, 999, 16384);
        due.row("by 999", Due.row(fast.cos(16384), fast.cos(16385), fast.cos(16384 + 998), fast.cos(16384 + 999)), fast.height(0, 1, 0),
            fast.height(0, 2, 0), fast.height(0, 999, 0), fast.height(0, 1000, 0));
        TideDesk still = waving(9999, 0, 0);
        due.row("SPEED 0", Due.row(Due.real(9.999), Due.real(9.999)), still.height(0, 0, 0), still.height(0, LAST, 0));
        TideDesk flat = waving(0, 60000, 32768);
        due.row("SIZE 0", Due.row(0, 0), flat.height(0, 0, 0), flat.height(0, LAST, 0));
    }

    /** "A SURVEY is a DRAFT as it is then (that is without WAVES, its MEAN 0, behind it)". */
    private static void draftAsItIsThen() {
        TideDesk d = new TideDesk();
        d.mean(0, 100);
        d.wave(0, 2000, 0, 0);
        due.is("survey", d.survey(0, 0), 1);
        due.row("behind it", Due.row(0, 1), d.mean(0, 500), d.wave(0, 9000, 0, 0));
        due.is("what comes to the DRAFT then is not in it", d.height(0, 0, 0), Due.real(3.0));
        due.is("survey", d.survey(0, 1), 2);
        due.row("each as it was", Due.row(Due.real(3.0), Due.real(14.0)), d.height(0, DAY - 1, 0), d.height(0, DAY, 0));
        due.is("of an empty DRAFT", d.survey(0, 2), 3);
        due.row("nothing is left of those before", Due.row(0, 0), d.height(0, 2 * DAY, 0), d.mean(0, 0));
    }

    private static void draftOfEachStation() {
        TideDesk d = new TideDesk();
        for (int s = 0; s < 12; s++) {
            d.mean(s, 100 * s);
            for (int i = 0; i <= s % 8; i++) d.wave(s, 1, 0, 0);
        }
        d.survey(5, 0);
        for (int s = 0; s < 12; s++) due.is("MEAN of " + s, d.mean(s, 1), s == 5 ? 0 : 100 * s);
        for (int s = 0; s < 12; s++) {
            due.is("WAVES of " + s, d.wave(s, 1, 0, 0), s == 5 ? 1 : s % 8 == 7 ? Due.FULL : s % 8 + 2);
        }
    }

    /** "A SURVEY, 60 at most of all". */
    private static void sixtySurveys() {
        TideDesk d = new TideDesk();
        for (int i = 1; i <= 58; i++) due.is("survey", d.survey(i % 11, 0), i);
        d.mean(11, 58);
        due.row("the 59th", Due.row(59, 59), d.survey(11, 0), d.count(1));
        due.is("its HEIGHT", d.height(11, 0, 0), Due.real(0.58));
        d.mean(11, 59);
        due.row("the 60th", Due.row(60, 60), d.survey(11, 0), d.count(1));
        due.is("its HEIGHT", d.height(11, 0, 0), Due.real(0.59));
        d.mean(11, 60);
        d.wave(11, 1000, 0, 0);
        due.row("a 61st", Due.row(Due.FULL, 60), d.survey(11, 0), d.count(1));
        due.row("of another, too", Due.row(Due.FULL, 60), d.survey(0, 29), d.count(1));
        due.is("the HEIGHT stays", d.height(11, 0, 0), Due.real(0.59));
        due.row("the DRAFT stays", Due.row(60, 2), d.mean(11, 0), d.wave(11, 0, 0, 0));
    }

    /** "from t's DAY or before". */
    private static void fromADayOn() {
        for (int day : new int[] {0, 1, 15, 28, 29}) {
            TideDesk d = new TideDesk();
            d.mean(0, day + 1);
            d.survey(0, day);
            int first = day * DAY;
            if (day > 0) {
                due.is("ahead of DAY " + day, d.force(0, first - 1, 0), Due.NULL);
                due.is("ahead of DAY " + day, d.height(0, first - 1, 0), Due.NO_REAL);
            }
            due.row("DAY " + day, Due.row(day, day, day), d.force(0, first, 0), d.force(0, first + DAY - 1, 0), d.force(0, LAST, 0));
            due.row("DAY " + day, Due.row(Due.real((day + 1) / 100.0), Due.real((day + 1) / 100.0)), d.height(0, first, 0),
                d.height(0, LAST, 0));
        }
    }

    /** "What is told is KNOWN from the NOW on at which it was told"; "k (not above NOW)". */
    private static void knownFromTheNowOn() {
        TideDesk d = new TideDesk();
        d.clock(1000);
        d.mean(0, 100);
        d.survey(0, 0);
        due.row("as KNOWN at its NOW, and before", Due.row(Due.NULL, 0, Due.BAD), d.force(0, 0, 999), d.force(0, 0, 1000),
            d.force(0, 0, 1001));
        d.clock(1001);
        due.row("a second later", Due.row(Due.NULL, 0, 0, Due.BAD), d.force(0, 0, 999), d.force(0, 0, 1000), d.force(0, 0, 1001),
            d.force(0, 0, 1002));
        due.row("HEIGHT", Due.row(Due.NO_REAL, Due.real(1.0), Due.real(1.0), Due.NO_REAL), d.height(0, 0, 999), d.height(0, 0, 1000),
            d.height(0, 0, 1001), d.height(0, 0, 1002));
        due.is("FINDINGS: NULL alone, BAD is none", d.count(8), 3);
        due.is("t may be behind NOW", d.force(0, LAST, 1000), 0);
    }

    /** "the one with the greatest DAY". */
    private static void greatestDay() {
        TideDesk d = new TideDesk();
        for (int day : new int[] {7, 3, 5}) {
            d.mean(0, day);
            d.survey(0, day);
        }
        due.row("force", Due.row(Due.NULL, 3, 3, 5, 5, 7, 7), d.force(0, 3 * DAY - 1, 0), d.force(0, 3 * DAY, 0), d.force(0, 5 * DAY - 1, 0),
            d.force(0, 5 * DAY, 0), d.force(0, 7 * DAY - 1, 0), d.force(0, 7 * DAY, 0), d.force(0, LAST, 0));
        due.row("HEIGHT", Due.row(Due.real(0.03), Due.real(0.05), Due.real(0.07)), d.height(0, 5 * DAY - 1, 0), d.height(0, 7 * DAY - 1, 0),
            d.height(0, 7 * DAY, 0));
    }

    /** "of like ones the one told last". */
    private static void toldLast() {
        TideDesk d = new TideDesk();
        for (int mean : new int[] {1, 2, 3}) {
            d.mean(0, mean);
            d.survey(0, 4);
            due.is("of " + mean, d.height(0, 4 * DAY, 0), Due.real(mean / 100.0));
        }
        d.mean(0, 9);
        d.survey(0, 3);
        due.is("one of a lesser DAY, told behind them", d.height(0, 4 * DAY, 0), Due.real(0.03));
        due.is("before", d.height(0, 4 * DAY - 1, 0), Due.real(0.09));
        d.mean(1, 8);
        d.survey(1, 4);
        due.is("one of another STATION", d.height(0, 4 * DAY, 0), Due.real(0.03));
    }

    /** Of those KNOWN at k alone. */
    private static void knownBeforeToldLast() {
        TideDesk d = new TideDesk();
        int[] nows = {10, 20, 30};
        int[] days = {2, 2, 1};
        for (int i = 0; i < 3; i++) {
            d.clock(nows[i]);
            d.mean(0, i + 1);
            d.survey(0, days[i]);
        }
        long first = Due.real(0.01);
        long second = Due.real(0.02);
        due.row("DAY 2", Due.row(Due.NO_REAL, first, first, second, second), d.height(0, 2 * DAY, 9), d.height(0, 2 * DAY, 10),
            d.height(0, 2 * DAY, 19), d.height(0, 2 * DAY, 20), d.height(0, 2 * DAY, 30));
        due.row("DAY 1", Due.row(Due.NULL, Due.NULL, 1), d.force(0, DAY, 20), d.force(0, DAY, 29), d.force(0, DAY, 30));
    }

    private static void nullWithoutOne() {
        TideDesk d = new TideDesk();
        for (int s = 0; s < 12; s++) {
            due.is("height", d.height(s, 0, 0), Due.NO_REAL);
            due.is("force", d.force(s, LAST, 0), Due.NULL);
        }
        due.row("NULL", Due.row(1, 24), d.finding(), d.count(8));
        d.wave(0, 1, 1, 1);
        due.is("a DRAFT is none", d.force(0, 0, 0), Due.NULL);
    }
}
