/** The edges that section 4 and promises 22 to 27 name, each with what lies on both sides of it. */
public final class WatersEdgesTest {
    private static final Due due = new Due("WatersEdgesTest");
    private static final int DAY = 86400, LAST = Due.LAST_MOMENT;
    /** From here on, by hours, HALVING comes to the very MOMENT at which a DAY begins. */
    private static final int FROM = 1799;

    public static void main(String[] args) {
        threeAndTwoHundred();
        neitherFirstNorLast();
        aboveAndNotBelow();
        slopes();
        halving();
        halvingByHand();
        fortyAreKept();
        asFoundLatest();
        nullAtTheFirst();
        asKnownNow();
        heightsAreKept();
        ranges();
        springAndNeap();
        foundNone();
        tideTakes();
        hoursFromTheHigh();
        nearestHigh();
        streamsAreKept();
        stationsApart();
        rowsApart();
        due.end();
    }

    /** HEIGHTS that stand for a DAY each, in hundredths; WATERS are looked for by the hour. */
    private static TideDesk days(int... means) {
        TideDesk d = new TideDesk();
        for (int day = 0; day < means.length; day++) {
            d.mean(0, means[day]);
            d.survey(0, day);
        }
        d.rule(2, 60);
        return d;
    }

    private static TideDesk waving(int size, int speed, int phase) {
        TideDesk d = new TideDesk();
        d.wave(0, size, speed, phase);
        d.survey(0, 0);
        return d;
    }

    private static void kinds(TideDesk d, String name, int... highs) {
        for (int i = 0; i < highs.length; i++) due.is(name + ": HIGH " + i, d.found(0, i, 1), highs[i]);
        due.row(name + ": no more", Due.row(Due.NONE, Due.NONE), d.found(0, highs.length, 0), d.found(0, highs.length, 1));
    }

    private static void moments(TideDesk d, String name, int... moments) {
        for (int i = 0; i < moments.length; i++) due.is(name + ": MOMENT " + i, d.found(0, i, 0), moments[i]);
    }

    /** "n 3 .. 200"; "a last MOMENT, that is none". */
    private static void threeAndTwoHundred() {
        TideDesk d = waving(1000, 8192, 32768);
        due.row("n of 2, 3", Due.row(Due.BAD, 1), d.waters(0, 3400, 2), d.waters(0, 3400, 3));
        moments(d, "a HIGH at 4000", 4000);
        d.rule(2, 1);
        int many = d.waters(0, 0, 200);
        due.row("n of 200, 201", Due.row(2, Due.BAD, 4000), many, d.waters(0, 0, 201), d.found(0, 0, 0));
        d.rule(2, 60);
        int from = LAST - 199 * 3600;
        due.row("up to the last MOMENT", Due.row(1, Due.BAD), d.waters(0, from, 200) >= 0 ? 1 : 0, d.waters(0, from + 1, 200));
        due.row("one less", Due.row(1, Due.BAD), d.waters(0, from + 3600, 199) >= 0 ? 1 : 0, d.waters(0, from + 3601, 199));
        due.row("of 3", Due.row(1, Due.BAD), d.waters(0, LAST - 7200, 3) >= 0 ? 1 : 0, d.waters(0, LAST - 7199, 3));
    }

    /** "i, not the first nor the last": the DAY begins between two hours. */
    private static void neitherFirstNorLast() {
        TideDesk d = days(100, 200);
        int behind = DAY + FROM;
        due.is("the last but one", d.waters(0, behind - 3600, 3), 1);
        moments(d, "it", DAY);
        due.is("the last", d.waters(0, behind - 2 * 3600, 3), 0);
        due.is("one more", d.waters(0, behind - 2 * 3600, 4), 1);
        due.is("the first", d.waters(0, behind, 3), 0);
    }

    /** "HIGH, if its HEIGHT is above that of i - 1, and not below that of i + 1; LOW, if it is below .. and not above". */
    private static void aboveAndNotBelow() {
        TideDesk up = days(100, 101);
        due.is("up, then level", up.waters(0, FROM, 48), 1);
        kinds(up, "up, then level", 1);
        TideDesk down = days(100, 99);
        due.is("down, then level", down.waters(0, FROM, 48), 1);
        kinds(down, "down, then level", 0);
        due.is("level", days(100, 100).waters(0, FROM, 48), 0);
        TideDesk all = days(100, 200, 200, 150, 150, 300, 100);
        due.is("by DAYS", all.waters(0, FROM, 167), 4);
        kinds(all, "by DAYS", 1, 0, 1, 0);
        moments(all, "by DAYS", DAY, 3 * DAY, 5 * DAY, 6 * DAY);
    }

    /** On a slope there is none; a peak between two lesser ones is HIGH. */
    private static void slopes() {
        TideDesk d = waving(1000, 1024, 0);
        due.is("down all the way", d.waters(0, 600, 52), 0);
        due.is("and up", d.waters(0, 32600, 52), 0);
        due.is("over the LOW", d.waters(0, 600, 60), 1);
        kinds(d, "over the LOW", 0);
        moments(d, "over the LOW", 32000);
        due.is("over the HIGH", d.waters(0, 32600, 60), 1);
        kinds(d, "over the HIGH", 1);
        moments(d, "over the HIGH", 64000);
    }

    /** "low becomes m, if HEIGHT at m + 1 is above (LOW: below) that at m, else high; high is it." */
    private static void halving() {
        // i stands at DAY + from; the second m is half an hour before it: that of FROM is the last second of the DAY before.
        int[] froms = {FROM - 1, FROM, FROM + 1};
        int[] due3 = {DAY + FROM - 1 - 3599, DAY, DAY + FROM + 1 - 3599};
        for (int i = 0; i < 3; i++) {
            TideDesk up = days(100, 200);
            up.waters(0, froms[i], 30);
            moments(up, "HIGH from " + froms[i], due3[i]);
            TideDesk down = days(200, 100);
            down.waters(0, froms[i], 30);
            moments(down, "LOW from " + froms[i], due3[i]);
        }
        TideDesk first = days(100, 200);
        first.waters(0, 0, 30);
        moments(first, "i stands at the first second of the DAY", DAY - 3599);
        TideDesk odd = days(100, 200);
        odd.rule(2, 1);
        odd.waters(0, DAY - 120 + 29, 5);
        moments(odd, "by minutes, the second m being the last second", DAY);
        odd.waters(0, DAY - 120 + 30, 5);
        moments(odd, "by minutes, the second m being the first second", DAY + 30 - 59);
    }

    private static void halvingByHand() {
        for (int step : new int[] {1, 7, 10, 33, 60}) {
            TideDesk d = mixed();
            d.rule(2, step);
            int many = d.waters(0, 17, 200);
            for (int i = 0; i < Math.min(3, many); i++) {
                boolean high = d.found(0, i, 1) == 1;
                due.is("step " + step + ", WATER " + i, d.found(0, i, 0), halved(sampleOf(17, 60 * step, i), 60 * step, high));
            }
        }
    }

    private static TideDesk mixed() {
        TideDesk d = new TideDesk();
        d.wave(0, 300, 5000, 12345);
        d.wave(0, 1000, 2048, 32768);
        d.survey(0, 0);
        return d;
    }

    /** Of a desk of its own, as an object is used for 512 calls at most. */
    private static double height(int t) {
        return Double.longBitsToDouble(mixed().height(0, t, 0));
    }

    /** The MOMENT of the sample that is WATER number i. */
    private static int sampleOf(int from, int step, int number) {
        int seen = 0;
        for (int i = 1; i < 199; i++) {
            double was = height(from + (i - 1) * step);
            double is = height(from + i * step);
            double will = height(from + (i + 1) * step);
            boolean counts = is > was && is >= will || is < was && is <= will;
            if (counts && seen++ == number) return from + i * step;
        }
        return -1;
    }

    private static int halved(int t, int step, boolean isHigh) {
        int low = t - step;
        int high = t + step;
        while (high - low > 1) {
            int m = (low + high) / 2;
            boolean on = isHigh ? height(m + 1) > height(m) : height(m + 1) < height(m);
            if (on) low = m;
            else high = m;
        }
        return high;
    }

    /** "40 are kept, the first ones": LOWS and HIGHS by turns each 1000 seconds, looked for each 300. */
    private static void fortyAreKept() {
        TideDesk d = waving(1000, 32768, 0);
        d.rule(2, 5);
        // The 39th, 40th, 41st of them are the samples 130, 133, 137.
        due.row("38, 39", Due.row(38, 39), d.waters(0, 0, 131), d.waters(0, 0, 132));
        due.row("39 kept", Due.row(39000, Due.NONE), d.found(0, 38, 0), d.found(0, 39, 0));
        due.row("39, 40", Due.row(39, 40), d.waters(0, 0, 134), d.waters(0, 0, 135));
        due.row("40 kept", Due.row(40000, 1, Due.NONE), d.found(0, 39, 0), d.found(0, 39, 1), d.found(0, 40, 0));
        due.row("40, and no more", Due.row(40, 40, 40), d.waters(0, 0, 138), d.waters(0, 0, 139), d.waters(0, 0, 200));
        due.row("the first ones", Due.row(1000, 40000, Due.NONE), d.found(0, 0, 0), d.found(0, 39, 0), d.found(0, 40, 0));
        due.row("39 RANGES", Due.row(Due.real(2.0), Due.NO_REAL, 0), d.range(0, 38), d.range(0, 39), d.count(8));
    }

    /** "as found latest". */
    private static void asFoundLatest() {
        TideDesk d = days(100, 200, 100, 200, 100);
        due.is("four", d.waters(0, FROM, 110), 4);
        due.is("one", d.waters(0, 2 * DAY + FROM, 30), 1);
        moments(d, "one", 3 * DAY);
        kinds(d, "one", 1);
        due.is("none", d.waters(0, 4 * DAY + FROM, 10), 0);
        kinds(d, "none");
        due.is("four again", d.waters(0, FROM, 110), 4);
        kinds(d, "four again", 1, 0, 1, 0);
    }

    /** "NULL: at one of those MOMENTS, the first and the last, too (WATERS of before stay)". */
    private static void nullAtTheFirst() {
        TideDesk d = new TideDesk();
        d.mean(0, 100);
        d.survey(0, 2);
        d.mean(0, 200);
        d.survey(0, 3);
        d.rule(2, 60);
        due.is("on its DAY", d.waters(0, 2 * DAY, 48), 1);
        int moment = d.found(0, 0, 0);
        due.row("a second ahead of it", Due.row(Due.NULL, 1, 1), d.waters(0, 2 * DAY - 1, 48), d.finding(), d.count(8));
        due.is("ahead of it by far", d.waters(0, 0, 3), Due.NULL);
        due.row("WATERS of before stay", Due.row(moment, 1, Due.NONE), d.found(0, 0, 0), d.found(0, 0, 1), d.found(0, 1, 0));
        d.waters(0, 0, 2);
        d.waters(0, LAST, 3);
        due.row("by BAD, too", Due.row(moment, 1, Due.NONE), d.found(0, 0, 0), d.found(0, 0, 1), d.found(0, 1, 0));
        due.is("another STATION's", d.found(1, 0, 0), Due.NONE);
    }

    private static void asKnownNow() {
        TideDesk d = days(100, 200);
        d.clock(50);
        d.mean(0, 50);
        d.survey(0, 1);
        d.mean(0, 700);
        d.survey(0, 2);
        due.is("as KNOWN NOW", d.waters(0, FROM, 60), 2);
        kinds(d, "as KNOWN NOW", 0, 1);
        moments(d, "HALVING, too", DAY, 2 * DAY);
        due.is("HEIGHTS, too", d.range(0, 0), Due.real(7.0 - 0.5));
    }

    /** "with their HEIGHTS as they were then". */
    private static void heightsAreKept() {
        TideDesk d = days(100, 300, 200);
        d.waters(0, FROM, 60);
        due.is("RANGE", d.range(0, 0), Due.real(3.0 - 2.0));
        d.mean(0, 1000);
        d.survey(0, 1);
        due.is("as they were then", d.range(0, 0), Due.real(1.0));
        d.waters(0, FROM, 60);
        due.is("found anew", d.range(0, 0), Due.real(10.0 - 2.0));
        TideDesk early = days(100, 300, 200);
        early.waters(0, 0, 60);
        moments(early, "ahead of the DAYS", DAY - 3599, 2 * DAY - 3599);
        due.is("HEIGHTS at those MOMENTS", early.range(0, 0), Due.real(3.0 - 1.0));
    }

    /** "the greater less the lesser, if one is HIGH and one LOW (LACK)"; "BAD: also there are not both". */
    private static void ranges() {
        TideDesk d = days(100, 200, 300, 100, 50, 400);
        due.is("waters", d.waters(0, FROM, 140), 5);
        kinds(d, "waters", 1, 1, 0, 0, 1);
        due.row("HIGH and HIGH", Due.row(Due.NO_REAL, 7, 1), d.range(0, 0), d.finding(), d.count(8));
        due.row("HIGH and LOW", Due.row(Due.real(2.0), 1), d.range(0, 1), d.count(8));
        due.row("LOW and LOW", Due.row(Due.NO_REAL, 2), d.range(0, 2), d.count(8));
        due.row("LOW and HIGH", Due.row(Due.real(3.5), 2), d.range(0, 3), d.count(8));
        due.row("there are not both", Due.row(Due.NO_REAL, Due.NO_REAL, Due.NO_REAL, 2), d.range(0, 4), d.range(0, 5), d.range(0, -1),
            d.count(8));
        d.waters(0, FROM, 27);
        due.row("of one", Due.row(Due.NO_REAL, Due.NO_REAL, 2), d.range(0, 0), d.range(0, -1), d.count(8));
        due.row("of none", Due.row(Due.NO_REAL, Due.NO_REAL, 2), d.range(1, 0), d.range(1, -1), d.count(8));
    }

    /** "SPRING, NEAP: the first i with the greatest, least RANGE"; "NONE: there is no RANGE". */
    private static void springAndNeap() {
        TideDesk d = days(100, 300, 200, 400, 300, 500);
        due.is("waters", d.waters(0, FROM, 140), 5);
        due.row("of like ones the first", Due.row(1, 0), d.spring(0, true), d.spring(0, false));
        TideDesk back = days(100, 300, 100, 200, 0, 100);
        back.waters(0, FROM, 140);
        due.row("of like ones the first", Due.row(0, 1), back.spring(0, true), back.spring(0, false));
        TideDesk mixed = days(100, 200, 300, 100, 50, 400);
        mixed.waters(0, FROM, 140);
        due.row("those without a RANGE do not count", Due.row(3, 1), mixed.spring(0, true), mixed.spring(0, false));
        TideDesk highs = days(100, 200, 300, 400);
        highs.waters(0, FROM, 90);
        due.row("HIGHS alone", Due.row(Due.NONE, Due.NONE), highs.spring(0, true), highs.spring(0, false));
        highs.waters(0, FROM, 27);
        due.row("one alone", Due.row(Due.NONE, Due.NONE), highs.spring(0, true), highs.spring(0, false));
        due.row("no FINDING", Due.row(0, 0, 0), d.count(8), mixed.count(8), highs.count(8));
        int[] others = {100, 300, 100, 200, 0, 100};
        for (int day = 0; day < 6; day++) {
            d.mean(11, others[day]);
            d.survey(11, day);
        }
        d.waters(11, FROM, 140);
        due.row("of each STATION", Due.row(0, 1, 1, 0), d.spring(11, true), d.spring(11, false), d.spring(0, true), d.spring(0, false));
    }

    private static void foundNone() {
        TideDesk d = days(100, 200, 100);
        due.row("none", Due.row(Due.NONE, Due.NONE), d.found(0, 0, 0), d.found(0, -1, 1));
        d.waters(0, FROM, 60);
        due.row("two", Due.row(Due.NONE, DAY, 2 * DAY, Due.NONE), d.found(0, -1, 0), d.found(0, 0, 0), d.found(0, 1, 0), d.found(0, 2, 0));
        due.row("whether HIGH", Due.row(Due.NONE, 1, 0, Due.NONE), d.found(0, -1, 1), d.found(0, 0, 1), d.found(0, 1, 1), d.found(0, 2, 1));
        due.row("BAD ahead of NONE", Due.row(Due.BAD, Due.BAD, Due.BAD), d.found(0, 9, 2), d.found(0, 9, -1), d.found(12, 9, 0));
    }

    /** "told -20.0 .. 20.0". */
    private static void tideTakes() {
        TideDesk d = days(100, 200);
        d.waters(0, FROM, 30);
        for (float v : new float[] {-20.0f, Math.nextUp(-20.0f), -0.0f, 0.0f, Float.MIN_VALUE, Math.nextDown(20.0f), 20.0f}) {
            due.row("tide " + v, Due.row(1, Due.bits(v)), d.tide(0, 0, Due.bits(v)), d.stream(0, DAY));
        }
        for (float v : new float[] {Math.nextDown(-20.0f), Math.nextUp(20.0f), Float.NaN}) {
            due.row("tide " + v, Due.row(Due.BAD, Due.bits(20.0f)), d.tide(0, 0, Due.bits(v)), d.stream(0, DAY));
        }
    }

    /** "by hours -6 .. 6 ..: (t less its MOMENT and 1800) / 3600, rounded down; INDEX: it is no such hour". */
    private static void hoursFromTheHigh() {
        TideDesk d = days(100, 200);
        d.waters(0, FROM, 30);
        for (int hour = -6; hour <= 6; hour++) d.tide(0, hour, Due.bits(10.0f + hour));
        for (int hour = -6; hour <= 6; hour++) {
            int t = DAY + hour * 3600;
            due.row("hour " + hour, Due.row(Due.bits(10.0f + hour), Due.bits(10.0f + hour), Due.bits(10.0f + hour)), d.stream(0, t - 1800),
                d.stream(0, t), d.stream(0, t + 1799));
        }
        int begin = DAY - 6 * 3600 - 1800;
        int end = DAY + 6 * 3600 + 1800;
        due.row("ahead of the hours", Due.row(Due.NO_FLOAT, 2, 1), d.stream(0, begin - 1), d.finding(), d.count(8));
        due.row("behind the hours", Due.row(Due.NO_FLOAT, 2, 2), d.stream(0, end), d.finding(), d.count(8));
        due.all("far off", Due.NO_FLOAT, d.stream(0, 0), d.stream(0, LAST));
        due.is("INDEX", d.count(8), 4);
        TideDesk low = days(200, 100);
        low.waters(0, FROM, 30);
        due.row("a LOW is no HIGH", Due.row(Due.NO_FLOAT, 7), low.stream(0, DAY), low.finding());
    }

    /** "the nearest HIGH of its WATERS (of as near ones the earlier)": HIGHS at 8000, 16000, 24000. */
    private static void nearestHigh() {
        TideDesk d = waving(1000, 8192, 0);
        due.is("waters", d.waters(0, 0, 46), 6);
        for (int hour = -6; hour <= 6; hour++) d.tide(0, hour, Due.bits(hour));
        due.row("between the first two", Due.row(Due.bits(1), Due.bits(1), Due.bits(-1)), d.stream(0, 11999), d.stream(0, 12000),
            d.stream(0, 12001));
        due.row("between the others", Due.row(Due.bits(1), Due.bits(1), Due.bits(-1)), d.stream(0, 19999), d.stream(0, 20000),
            d.stream(0, 20001));
        due.row("ahead of all, behind all", Due.row(Due.bits(-2), Due.bits(6)), d.stream(0, 0), d.stream(0, 24000 + 6 * 3600 + 1799));
        due.is("the LOWS between do not count", d.stream(0, 4000), Due.bits(-1));
    }

    /** "a FLOAT of its row of 13 (0.0 at first)": each of its own. */
    private static void streamsAreKept() {
        TideDesk d = days(100, 200);
        d.waters(0, FROM, 30);
        for (int hour = -6; hour <= 6; hour++) due.is("0.0 at first", d.stream(0, DAY + hour * 3600), 0);
        d.tide(0, -6, Due.bits(1.5f));
        d.tide(0, 6, Due.bits(-1.5f));
        d.tide(1, 0, Due.bits(7.0f));
        for (int hour = -5; hour <= 5; hour++) due.is("0.0 still", d.stream(0, DAY + hour * 3600), 0);
        due.row("the ends", Due.row(Due.bits(1.5f), Due.bits(-1.5f)), d.stream(0, DAY - 6 * 3600), d.stream(0, DAY + 6 * 3600));
        d.waters(0, FROM, 40);
        due.is("WATERS found anew leave it", d.stream(0, DAY - 6 * 3600), Due.bits(1.5f));
    }

    /** WATERS of each STATION are its own, 40 of them, too. */
    private static void stationsApart() {
        TideDesk d = new TideDesk();
        d.rule(2, 5);
        for (int s = 0; s < 12; s++) {
            d.wave(s, 1000 + s, 32768, 32768 * (s % 2));
            d.survey(s, 0);
            due.is("waters", d.waters(s, 0, s == 11 ? 132 : 200), s == 11 ? 39 : 40);
        }
        for (int s = 0; s < 12; s++) {
            int last = s == 11 ? 38 : 39;
            due.row("the first of " + s, Due.row(1000, s % 2), d.found(s, 0, 0), d.found(s, 0, 1));
            due.row("the last of " + s, Due.row(1000 + 1000 * last, (last + s) % 2, Due.NONE), d.found(s, last, 0), d.found(s, last, 1),
                d.found(s, last + 1, 0));
            double high = 0.0 + (1000 + s) / 1000.0;
            due.row("RANGES of " + s, Due.row(Due.real(high + high), Due.real(high + high)), d.range(s, 0), d.range(s, last - 1));
            due.row("SPRING and NEAP of " + s, Due.row(0, 0), d.spring(s, true), d.spring(s, false));
        }
    }

    /** Each STATION has a row of its own. */
    private static void rowsApart() {
        TideDesk d = new TideDesk();
        for (int s = 0; s < 12; s++) {
            d.mean(s, 100);
            d.survey(s, 0);
            d.mean(s, 200);
            d.survey(s, 1);
            for (int hour = -6; hour <= 6; hour += 6) d.tide(s, hour, Due.bits(s + hour / 6 * 0.25f));
        }
        d.rule(2, 60);
        for (int s = 0; s < 12; s++) {
            d.waters(s, FROM, 30);
            for (int hour = -6; hour <= 6; hour += 3) {
                float told = hour % 6 == 0 ? s + hour / 6 * 0.25f : 0.0f;
                due.is("STATION " + s + ", hour " + hour, d.stream(s, DAY + hour * 3600), Due.bits(told));
            }
        }
    }
}
