import java.util.Arrays;

/** The edges that section 2 and promises 9 to 17 name, each with what lies on both sides of it. */
public final class GaugesEdgesTest {
    private static final Due due = new Due("GaugesEdgesTest");
    private static final int DAY = 86400, LAST = Due.LAST_MOMENT, NONE_THERE = -32768;

    public static void main(String[] args) {
        tenGauges();
        readingsTillNow();
        readingsAtTheLastMoment();
        hundredAndTwentyReadings();
        shortsThatAreThere();
        airs();
        airsCompared();
        outAndInAgain();
        rowsAsLongAsWhatCame();
        readingsAtOrBefore();
        theLastTaken();
        takenThoughNotThere();
        middleBySize();
        middleFades();
        ageOfTheLastThatIsThere();
        surveyInForceForTheReading();
        heightAtTheReading();
        lackingIsOfSurges();
        due.end();
    }

    /** READINGS from a MOMENT on at a STATION whose HEIGHT is 0.0. */
    private static TideDesk gauged(int first, int step, int... shorts) {
        TideDesk d = new TideDesk();
        d.survey(0, 0);
        d.gauge(0, first, step);
        d.clock(LAST);
        for (int v : shorts) d.reading(0, v, 0);
        return d;
    }

    private static void tenGauges() {
        TideDesk d = new TideDesk();
        for (int i = 0; i < 9; i++) due.is("gauge", d.gauge(i, 0, 60), i);
        due.row("the 10th", Due.row(9, 10), d.gauge(11, 0, 60), d.count(2));
        due.row("an 11th", Due.row(Due.FULL, 10), d.gauge(11, 0, 60), d.count(2));
        due.row("of each", Due.row(1, 1, Due.BAD), d.reading(0, 5, 0), d.reading(9, 6, 0), d.reading(10, 7, 0));
    }

    /** "NO: its MOMENT is above NOW." */
    private static void readingsTillNow() {
        TideDesk d = new TideDesk();
        d.gauge(0, 1000, 100);
        d.clock(999);
        due.is("ahead of the first", d.reading(0, 1, 1), Due.NO);
        d.clock(1000);
        due.row("at the first", Due.row(1, Due.NO), d.reading(0, 1, 1), d.reading(0, 2, 2));
        d.clock(1099);
        due.is("ahead of the second", d.reading(0, 2, 2), Due.NO);
        d.clock(1100);
        due.row("at the second", Due.row(2, Due.NO), d.reading(0, 2, 2), d.reading(0, 3, 3));
        d.clock(1301);
        due.row("two at once", Due.row(3, 4, Due.NO), d.reading(0, 3, 3), d.reading(0, 4, 4), d.reading(0, 5, 5));
        due.row("as they came", Due.row(1, 2, 3, 4, -100002), d.at(0, 0), d.at(0, 1), d.at(0, 2), d.at(0, 3), d.at(0, 4));
        due.is("NO is no FINDING", d.count(8), 1);
    }

    private static void readingsAtTheLastMoment() {
        TideDesk d = new TideDesk();
        d.gauge(0, LAST, 60);
        d.gauge(0, LAST - 60, 60);
        d.gauge(0, LAST - 59, 60);
        d.clock(LAST);
        due.row("one", Due.row(1, Due.NO), d.reading(0, 1, 1), d.reading(0, 1, 1));
        due.row("two", Due.row(1, 2, Due.NO), d.reading(1, 1, 1), d.reading(1, 1, 1), d.reading(1, 1, 1));
        due.row("one", Due.row(1, Due.NO), d.reading(2, 1, 1), d.reading(2, 1, 1));
    }

    /** "READING i, 120 at most"; "FULL: 120 (also of one that is OUT)". */
    private static void hundredAndTwentyReadings() {
        TideDesk d = new TideDesk();
        d.gauge(0, 0, 7200);
        d.gauge(0, 0, 60);
        d.clock(LAST);
        for (int i = 1; i <= 118; i++) d.reading(0, i, i);
        due.row("the 119th", Due.row(119, -100002), d.reading(0, 119, 0), d.at(0, 119));
        d.out(0, true);
        due.row("OUT with 119", Due.row(Due.NULL, Due.NULL), d.reading(0, 120, 0), d.reading(0, 120, 0));
        d.out(0, false);
        due.row("the 120th", Due.row(120, 120, -100002), d.reading(0, 120, 0), d.at(0, 119), d.at(0, 120));
        due.row("a 121st", Due.row(Due.FULL, -100002), d.reading(0, 121, 0), d.at(0, 120));
        d.out(0, true);
        int findings = d.count(8);
        due.row("OUT with 120", Due.row(Due.FULL, findings), d.reading(0, 121, 0), d.count(8));
        due.is("another GAUGE has room of its own", d.reading(1, 1, 1), 1);
    }

    /** "a SHORT (hundredths; -32768: none)". */
    private static void shortsThatAreThere() {
        for (int v : new int[] {-32767, -1, 0, 1, 32766, 32767}) {
            due.is("SURGE of " + v, gauged(0, 60, v).surge(0, 0), Due.real(v / 100.0));
        }
        TideDesk d = gauged(0, 60, NONE_THERE);
        due.row("-32768", Due.row(NONE_THERE, Due.NO_REAL, 7, 1), d.at(0, 0), d.surge(0, 0), d.finding(), d.lacking());
    }

    /** "air: BITS; all that are no number are NO NUMBER". */
    private static void airs() {
        TideDesk d = gauged(0, 60);
        int[] kept = {0, 1 << 31, 1, 0x80000001, 0x7f7fffff, 0x7f800000, 0xff7fffff, 0xff800000};
        int[] none = {0x7f800001, 0x7fbfffff, 0x7fc00000, 0x7fc00001, 0x7fffffff, 0xff800001, 0xffc00000, -1};
        for (int bits : kept) d.reading(0, 0, bits);
        for (int bits : none) d.reading(0, 0, bits);
        for (int i = 0; i < 8; i++) {
            due.is("a number", d.air(0, i), kept[i]);
            due.is("no number", d.air(0, 8 + i), Due.NO_FLOAT);
        }
        due.is("NO NUMBER is no FINDING", d.count(8), 0);
        due.row("beyond", Due.row(Due.NO_FLOAT, 2), d.air(0, 16), d.finding());
    }

    private static void airsCompared() {
        TideDesk d = gauged(0, 60);
        int[] rising = {0xff800000, 0xff7fffff, 0xbf800000, 0x80000001, 0, 1, 0x3f800000, 0x7f7fffff, 0x7f800000};
        for (int bits : rising) d.reading(0, 0, bits);
        for (int i = 0; i < rising.length; i++) {
            for (int j = 0; j < rising.length; j++) {
                due.is("compare " + i + " " + j, d.compare(0, i, j), i < j ? 1 + 2 + 32 : i > j ? 4 + 8 + 32 : 2 + 8 + 16);
            }
        }
        d.reading(0, 0, 1 << 31);
        d.reading(0, 0, -1);
        due.row("0.0, -0.0", Due.row(26, 26, 26), d.compare(0, 4, 9), d.compare(0, 9, 4), d.compare(0, 9, 9));
        due.row("-0.0 and those next to it", Due.row(35, 44), d.compare(0, 9, 5), d.compare(0, 9, 3));
        for (int i = 0; i < 11; i++) {
            due.row("no number", Due.row(32, 32), d.compare(0, i, 10), d.compare(0, 10, i));
        }
        due.row("beyond", Due.row(Due.INDEX, Due.INDEX, Due.INDEX, Due.INDEX), d.compare(0, 11, 0), d.compare(0, 0, 11), d.compare(0, -1, 0),
            d.compare(0, 0, -1));
    }

    /** "A GAUGE that is OUT has no rows (NULL); in again it has them as they were." */
    private static void outAndInAgain() {
        TideDesk d = gauged(0, 60, 11, 22);
        due.row("OUT", Due.row(1, 0, -100001, Due.NO_FLOAT, Due.NULL, Due.NO_REAL), d.out(0, true), d.out(0, true), d.at(0, 0),
            d.air(0, 0), d.compare(0, 0, 0), d.surge(0, 0));
        due.row("NULL each time", Due.row(1, 4), d.finding(), d.count(8));
        due.is("reading", d.reading(0, 33, 33), Due.NULL);
        due.row("in", Due.row(1, 0, 11, 22, -100002), d.out(0, false), d.out(0, false), d.at(0, 0), d.at(0, 1), d.at(0, 2));
        due.is("reading", d.reading(0, 33, 33), 3);
        due.is("a new GAUGE is in", new TideDesk().gauge(0, 0, 60) + gauged(0, 60).out(0, false), 0);
    }

    /** "in rows as long as what came": "INDEX (not yet)". */
    private static void rowsAsLongAsWhatCame() {
        TideDesk d = gauged(0, 60);
        due.row("none", Due.row(-100002, -100002, Due.INDEX), d.at(0, 0), d.at(0, -1), d.compare(0, 0, 0));
        for (int many = 1; many <= 3; many++) {
            d.reading(0, many, many);
            due.row("of " + many, Due.row(many, -100002, many, Due.NO_FLOAT), d.at(0, many - 1), d.at(0, many), d.air(0, many - 1),
                d.air(0, many));
        }
    }

    /** "of its READINGS of MOMENTS at t or before". */
    private static void readingsAtOrBefore() {
        TideDesk d = gauged(1000, 100, 500, 300);
        d.rule(1, 48);
        d.surge(0, 1000);
        due.row("ahead of the first", Due.row(Due.NO_REAL, 7, 0), d.surge(0, 999), d.finding(), d.lacking());
        due.is("at the first", d.surge(0, 1000), Due.real(5.0));
        due.is("ahead of the second", d.surge(0, 1099), Due.real(5.0 * ((172800 - 99) / 172800.0)));
        due.is("at the second", d.surge(0, 1100), Due.real(3.0));
        due.is("behind it", d.surge(0, 1101), Due.real(3.0 * ((172800 - 1) / 172800.0)));
        due.is("where a third would be", d.surge(0, 1200), Due.real(3.0 * ((172800 - 100) / 172800.0)));
    }

    /** "the last TAKE (1 .. 9; 5 at first)". */
    private static void theLastTaken() {
        int[] shorts = {100, 200, 300, 400, 500, 600, 700, 800, 900, 1000, 1100};
        for (int take = 1; take <= 9; take++) {
            TideDesk d = gauged(0, 60, shorts);
            due.is("TAKE at first", d.rule(0, take), 5);
            for (int i = 0; i < shorts.length; i++) {
                int many = Math.min(take, i + 1);
                double middle = shorts[i - many + 1 + (many - 1) / 2] / 100.0;
                due.is("TAKE " + take + " of " + (i + 1), d.surge(0, 60 * i), Due.real(middle));
            }
        }
        TideDesk d = gauged(0, 60, shorts);
        due.is("5 at first", d.surge(0, 600), Due.real(9.0));
        d.rule(0, 10);
        d.rule(0, 0);
        due.is("what is refused is no TAKE", d.surge(0, 600), Due.real(9.0));
    }

    /** The last TAKE are taken first; then it is seen which of them are there. */
    private static void takenThoughNotThere() {
        for (int take = 1; take <= 4; take++) {
            TideDesk d = gauged(0, 60, 700, NONE_THERE, NONE_THERE);
            d.rule(0, take);
            boolean there = take >= 3;
            due.is("TAKE " + take, d.surge(0, 120), there ? Due.real(7.0 * ((43200 - 120) / 43200.0)) : Due.NO_REAL);
            due.row("lacking", Due.row(Math.min(take, 2), there ? 0 : 7), d.lacking(), d.finding());
        }
    }

    /** "the MIDDLE of these by size (..; of even many the lesser)": in whichever order they came. */
    private static void middleBySize() {
        int[][] orders = {{1, 2, 3, 4}, {4, 3, 2, 1}, {2, 4, 1, 3}, {3, 1, 4, 2}, {1, 4, 2, 3}, {4, 1, 3, 2}, {2, 2, 1, 3}, {3, 1, 3, 1}};
        for (int[] order : orders) {
            TideDesk d = gauged(0, 60, 100 * order[0], 100 * order[1] - 250, 100 * order[2], 100 * order[3] - 250);
            for (int many = 1; many <= 4; many++) {
                double[] sizes = new double[many];
                for (int i = 0; i < many; i++) sizes[i] = (100 * order[i] - (i % 2 == 1 ? 250 : 0)) / 100.0;
                Arrays.sort(sizes);
                due.is("MIDDLE of " + many, d.surge(0, 60 * (many - 1)), Due.real(sizes[(many - 1) / 2]));
            }
        }
        int[] nine = {900, 100, 800, 200, 700, 300, 600, 400, 500};
        TideDesk d = gauged(0, 60, nine);
        d.rule(0, 9);
        due.row("of 9, of 8", Due.row(Due.real(5.0), Due.real(4.0)), d.surge(0, 480), d.surge(0, 420));
    }

    /** "with FADE hours (1 .. 48; 12 at first) or more 0.0". */
    private static void middleFades() {
        for (int fade : new int[] {1, 2, 12, 47, 48}) {
            for (int v : new int[] {777, -777}) {
                TideDesk d = gauged(1000, 60, v);
                due.is("FADE at first", d.rule(1, fade), 12);
                int gone = 1000 + fade * 3600;
                due.is("at once", d.surge(0, 1000), Due.real(v / 100.0));
                due.is("a second", d.surge(0, 1001), Due.real(v / 100.0 * ((fade * 3600 - 1) / (fade * 3600.0))));
                due.is("the last second", d.surge(0, gone - 1), Due.real(v / 100.0 * (1 / (fade * 3600.0))));
                due.row("gone", Due.row(0, 0, 0), d.surge(0, gone), d.surge(0, gone + 1), d.surge(0, LAST));
            }
        }
        TideDesk d = gauged(0, 60, 100);
        d.rule(1, 49);
        d.rule(1, 0);
        due.row("12 at first", Due.row(Due.real(1 / 43200.0), 0), d.surge(0, 43199), d.surge(0, 43200));
        due.is("0.0 is no LACK", d.count(8), 0);
    }

    /** "age being t less the MOMENT of the last that is there". */
    private static void ageOfTheLastThatIsThere() {
        TideDesk d = gauged(0, 3600, 200, NONE_THERE);
        d.rule(1, 1);
        due.is("nearly gone", d.surge(0, 3599), Due.real(2.0 * (1 / 3600.0)));
        due.is("gone, though another came", d.surge(0, 3600), 0);
        due.is("lacking", d.lacking(), 1);
        TideDesk e = gauged(0, 60, 200, 100, 300);
        due.is("not that of the MIDDLE", e.surge(0, 120), Due.real(2.0));
        due.is("a minute later", e.surge(0, 180), Due.real(2.0 * ((43200 - 60) / 43200.0)));
    }

    /** "a SURVEY being IN FORCE for their MOMENT as KNOWN NOW". */
    private static void surveyInForceForTheReading() {
        TideDesk d = new TideDesk();
        d.gauge(0, DAY - 1, 60);
        d.gauge(0, DAY, 60);
        d.clock(DAY + 600);
        d.reading(0, 100, 0);
        d.reading(1, 100, 0);
        due.all("no SURVEY", Due.NO_REAL, d.surge(0, DAY - 1), d.surge(1, DAY));
        d.survey(0, 1);
        due.row("a READING of the DAY before", Due.row(Due.NO_REAL, 1), d.surge(0, DAY), d.lacking());
        due.row("a READING of the DAY", Due.row(Due.real(1.0), 0), d.surge(1, DAY), d.lacking());
        d.reading(0, 100, 0);
        due.is("one is there of two", d.surge(0, DAY + 59), Due.real(1.0));
        due.is("lacking", d.lacking(), 1);
        d.mean(0, 30);
        d.survey(0, 0);
        due.is("KNOWN NOW, though not as the READING came", d.surge(0, DAY - 1), Due.real(1.0 - 0.3));
        due.is("and another later", d.surge(1, DAY), Due.real(1.0));
        d.clock(DAY + 601);
        d.mean(0, 40);
        d.survey(0, 1);
        due.is("as KNOWN NOW", d.surge(1, DAY), Due.real(1.0 - 0.4));
    }

    /** "SHORT / 100.0 less HEIGHT at it". */
    private static void heightAtTheReading() {
        TideDesk d = new TideDesk();
        d.mean(0, 100);
        d.wave(0, 2000, 8192, 3);
        d.survey(0, 0);
        d.gauge(0, 500, 60);
        d.clock(9000);
        d.reading(0, 250, 0);
        double middle = 2.5 - Double.longBitsToDouble(d.height(0, 500, 0));
        due.is("at it", d.surge(0, 500), Due.real(middle));
        due.is("not at t", d.surge(0, 4500), Due.real(middle * ((43200 - 4000) / 43200.0)));
    }

    /** "the latest surge() without BAD, FULL, NULL .. (WATER's SURGES apart); 0 before". */
    private static void lackingIsOfSurges() {
        TideDesk d = gauged(0, 60, 100, NONE_THERE, NONE_THERE);
        d.shoal(0, 0, 0);
        d.leg(0, 0, 0, Due.NO_FLOAT);
        d.ship(1, 0, 100, 0, 0, 0);
        d.passage(0, 0, 0);
        d.water(0, 120);
        d.holds(0, 0, 2);
        d.windows(0, 0, 0, 9);
        d.plan();
        due.is("0 before", d.lacking(), 0);
        due.row("surge", Due.row(Due.real(1.0 * ((43200 - 120) / 43200.0)), 2), d.surge(0, 120), d.lacking());
        d.water(0, 0);
        d.holds(0, 0, 0);
        d.surge(0, -1);
        d.surge(1, 0);
        d.out(0, true);
        d.surge(0, 0);
        due.is("NULL, BAD leave it", d.lacking(), 2);
        d.out(0, false);
        d.rule(0, 1);
        due.row("LACK does not", Due.row(Due.NO_REAL, 1), d.surge(0, 120), d.lacking());
        due.row("none", Due.row(Due.real(1.0), 0), d.surge(0, 0), d.lacking());
    }
}
