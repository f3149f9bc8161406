/** The edges that section 6 and promises 38 to 45 name, each with what lies on both sides of it. */
public final class RoutesEdgesTest {
    private static final Due due = new Due("RoutesEdgesTest");
    private static final int DAY = 86400, LAST = Due.LAST_MOMENT, NO_MARK = Due.NO_FLOAT, NONE = Due.NONE;
    private static final int DEEP = 0, LIGHT = 1, TOW = 2, FERRY = 3, PAIR = 4;

    public static void main(String[] args) {
        fourLegs();
        notBelowTheOneAhead();
        legsWhileStarted();
        comesCut();
        comesByPace();
        comesBeyondAllMoments();
        fromRiseOnAndBeforeSet();
        dayOfEachLeg();
        waterOrMore();
        waterAtEachLeg();
        belowTheMark();
        withoutAMark();
        asFarAsTheyMust();
        firstAndLastMinute();
        askedOnce();
        withoutLegs();
        oneMinute();
        longestRuns();
        twentyRuns();
        theTwentiethRun();
        findingsAndNoBetweenRuns();
        wrongs();
        due.end();
    }

    /** A STATION of 0.0 with SHOAL 0 of that BED, and ROUTE 0 over it. */
    private static TideDesk over(int bed) {
        TideDesk d = new TideDesk();
        d.survey(0, 0);
        d.shoal(0, bed, 0);
        d.leg(0, 0, 0, NO_MARK);
        return d;
    }

    private static void fourLegs() {
        TideDesk d = over(0);
        due.row("legs", Due.row(2, 3, 4), d.leg(0, 0, 0, NO_MARK), d.leg(0, 0, 0, NO_MARK), d.leg(0, 0, 7, NO_MARK));
        due.is("a 5th", d.leg(0, 0, 7, NO_MARK), Due.FULL);
        due.row("clear", Due.row(4, 0, 1), d.clear(0), d.clear(0), d.leg(0, 0, 6, NO_MARK));
        for (int route = 1; route < 6; route++) due.row("of each", Due.row(1, 1), d.leg(route, 0, 0, NO_MARK), d.clear(route));
    }

    /** "a DISTANCE (0 .. 50000, not below the one ahead)". */
    private static void notBelowTheOneAhead() {
        TideDesk d = over(0);
        due.row("behind 0", Due.row(Due.BAD, 2), d.leg(0, 0, -1, NO_MARK), d.leg(0, 0, 500, NO_MARK));
        due.row("behind 500", Due.row(Due.BAD, 3), d.leg(0, 0, 499, NO_MARK), d.leg(0, 0, 500, NO_MARK));
        due.row("behind 500", Due.row(Due.BAD, 4), d.leg(0, 0, 499, NO_MARK), d.leg(0, 0, 501, NO_MARK));
        d.clear(0);
        due.is("the first has none ahead", d.leg(0, 0, 0, NO_MARK), 1);
        due.is("nor has that of another ROUTE", d.leg(1, 0, 3, NO_MARK), 1);
        due.row("which has its own", Due.row(Due.BAD, 2), d.leg(1, 0, 2, NO_MARK), d.leg(0, 0, 2, NO_MARK));
    }

    /** "NO: a PASSAGE of it has a start": not of one that WAITS, nor of one that is PLANNED without a start. */
    private static void legsWhileStarted() {
        TideDesk d = over(1000);
        d.ship(LIGHT, 0, 100, 0, 0, 0);
        d.ship(LIGHT, 0, 0, 0, 0, 0);
        d.passage(1, 0, 0);
        due.row("it WAITS", Due.row(2, 2, 1), d.leg(0, 0, 0, NO_MARK), d.clear(0), d.leg(0, 0, 0, NO_MARK));
        d.plan();
        due.row("no start", Due.row(0, NONE, 2, 2, 1), d.planned(0, 0), d.planned(0, 1), d.leg(0, 0, 0, NO_MARK), d.clear(0),
            d.leg(0, 0, 0, NO_MARK));
        d.passage(0, 0, 0);
        d.plan();
        due.row("a start at minute 0", Due.row(0, Due.NO, Due.NO), d.planned(1, 1), d.leg(0, 0, 0, NO_MARK), d.clear(0));
        due.row("of another ROUTE", Due.row(1, 1), d.leg(1, 0, 0, NO_MARK), d.clear(1));
        d.again(1);
        due.row("it WAITS again", Due.row(2, 2), d.leg(0, 0, 0, NO_MARK), d.clear(0));
        for (int p = 0; p < 3; p++) {
            TideDesk e = over(1000);
            e.ship(LIGHT, 0, 100, 0, 0, 0);
            for (int i = 0; i < 3; i++) e.passage(0, i == p ? 0 : 1, 43199);
            e.plan();
            due.row("PASSAGE " + p + " alone", Due.row(Due.NO, Due.NO, Due.NO, 0), e.leg(0, 0, 0, NO_MARK), e.clear(0), e.clear(1), e.clear(2));
        }
    }

    /** "at s and DISTANCE * 100 by its PACE", cut. */
    private static void comesCut() {
        TideDesk d = over(0);
        for (int distance : new int[] {2, 3, 50000}) d.leg(0, 0, distance, NO_MARK);
        d.ship(LIGHT, 0, 3, 0, 0, 0);
        d.ship(LIGHT, 0, 3000, 0, 0, 0);
        d.ship(LIGHT, 0, 201, 0, 0, 0);
        due.row("by 3", Due.row(5, 5 + 66, 5 + 100, 5 + 1666666), d.comes(0, 0, 0, 5), d.comes(0, 0, 1, 5), d.comes(0, 0, 2, 5),
            d.comes(0, 0, 3, 5));
        due.row("by 3000", Due.row(5, 5, 5, 5 + 1666), d.comes(1, 0, 0, 5), d.comes(1, 0, 1, 5), d.comes(1, 0, 2, 5), d.comes(1, 0, 3, 5));
        due.row("by 201", Due.row(5, 5, 5 + 1), d.comes(2, 0, 0, 5), d.comes(2, 0, 1, 5), d.comes(2, 0, 2, 5));
    }

    /** "its PACE (below 1: NO ..)": ahead of the first LEG, too. */
    private static void comesByPace() {
        TideDesk d = over(1000);
        d.leg(0, 0, 7, NO_MARK);
        int[][] tows = {{5, 1}, {1, 1}, {1, 2}, {0, 1}, {1, -1}, {5, -1}, {1, -2}};
        int[] paces = {5, 1, 0, 0, -1, -5, 0};
        for (int i = 0; i < tows.length; i++) {
            d.ship(TOW, 0, tows[i][0], tows[i][1], 0, 0);
            boolean goes = paces[i] > 0;
            due.row("PACE " + paces[i], Due.row(goes ? 9 : Due.NO, goes ? 9 + 700 / paces[i] : Due.NO), d.comes(i, 0, 0, 9), d.comes(i, 0, 1, 9));
            due.row("minutes", Due.row(goes ? 1 : Due.NO, goes ? 1 : Due.NO), d.holds(i, 0, 720), d.holds(i, 5, 720));
        }
        due.is("NO is no FINDING", d.count(8), 0);
    }

    /** "beyond all MOMENTS: NO". */
    private static void comesBeyondAllMoments() {
        TideDesk d = over(1000);
        d.leg(0, 0, 90, NO_MARK);
        d.leg(1, 0, 50000, NO_MARK);
        d.ship(LIGHT, 0, 100, 0, 0, 0);
        d.ship(LIGHT, 0, 1, 0, 0, 0);
        due.row("the last MOMENT", Due.row(LAST - 1, LAST, Due.NO), d.comes(0, 0, 1, LAST - 91), d.comes(0, 0, 1, LAST - 90),
            d.comes(0, 0, 1, LAST - 89));
        due.row("the first LEG", Due.row(LAST, LAST), d.comes(0, 0, 0, LAST), d.comes(1, 0, 0, LAST));
        due.row("5000000 seconds", Due.row(Due.NO, Due.NO), d.comes(1, 1, 0, 0), d.comes(1, 1, 0, LAST));
        // Minute 43198 begins 120 seconds ahead of the end of all MOMENTS, 43199 begins 60 ahead.
        due.row("minutes", Due.row(1, Due.NO), d.holds(0, 0, 43198), d.holds(0, 0, 43199));
    }

    /** "u's second of its DAY is from RISE on and before SET". */
    private static void fromRiseOnAndBeforeSet() {
        int[][] suns = {{21600, 64800}, {21601, 64801}, {21599, 64799}, {0, 86400}, {0, 0}, {43200, 43200}, {64800, 21600}, {86400, 86400}, {0, 1},
            {86399, 86400}};
        for (int i = 0; i < suns.length; i++) {
            TideDesk d = over(1000);
            d.ship(TOW, 0, 100, 1, 0, 0);
            if (i > 0) due.is("sun", d.sun(suns[i][0], suns[i][1]), 1);
            for (int minute : new int[] {0, 1, 359, 360, 361, 719, 720, 1079, 1080, 1081, 1439, 1440, 1440 + 359, 1440 + 360, 29 * 1440, 29 * 1440 + 720}) {
                int second = minute * 60 % DAY;
                boolean day = second >= suns[i][0] && second < suns[i][1];
                due.is("sun " + i + ", minute " + minute, d.holds(0, 0, minute), day ? 1 : 0);
            }
        }
        TideDesk d = over(1000);
        d.ship(TOW, 0, 100, 1, 0, 0);
        due.row("by hand", Due.row(0, 1, 1, 0), d.holds(0, 0, 359), d.holds(0, 0, 360), d.holds(0, 0, 1079), d.holds(0, 0, 1080));
        due.row("what is refused is no RISE", Due.row(Due.BAD, Due.BAD, 0, 1), d.sun(0, 86401), d.sun(-1, 86400), d.holds(0, 0, 359),
            d.holds(0, 0, 360));
    }

    /** A TOW starts by day and comes to its second LEG a second ahead of SET, or at SET. */
    private static void dayOfEachLeg() {
        for (int distance : new int[] {59, 60, 61}) {
            TideDesk d = over(1000);
            d.leg(0, 0, distance, NO_MARK);
            d.ship(TOW, 0, 100, 1, 0, 0);
            due.is("till SET, " + distance, d.holds(0, 0, 1079), distance < 60 ? 1 : 0);
            due.is("the first LEG ahead of RISE", d.holds(0, 0, 359), 0);
            d.clear(0);
            d.leg(0, 0, distance, NO_MARK);
            due.row("from RISE on, till SET, " + distance, Due.row(distance < 60 ? 0 : 1, distance < 60 ? 1 : 0), d.holds(0, 0, 359),
                d.holds(0, 0, 1079));
        }
    }

    /** "WATER of the SHOAL at u is NEED / 100.0 or more". */
    private static void waterOrMore() {
        for (int need : new int[] {30, 31, 57, 58, 100, 3030}) {
            for (int less = -1; less <= 1; less++) {
                TideDesk d = over(need + less);
                d.ship(LIGHT, need - 30, 100, 0, 0, 0);
                due.is("NEED " + need + ", WATER " + (need + less), d.holds(0, 0, 0), less >= 0 ? 1 : 0);
            }
        }
        TideDesk d = over(0);
        d.ship(TOW, 0, 100, 1, 0, 0);
        d.ship(TOW, 0, 1000, -1000, 0, 0);
        d.ship(FERRY, 0, 100, 0, 0, 0);
        d.gauge(0, 0, 60);
        d.reading(0, 60, 0);
        due.row("with the SURGE of 0.6", Due.row(0, 1, 0), d.holds(2, 0, 1), d.holds(2, 0, 0), d.holds(0, 0, 0));
        due.row("a NEED of -900, but no PACE", Due.row(Due.NO, 1, -900), d.holds(1, 0, 720), d.ask(1, 0), d.asked());
    }

    /** DAY 1 has too little WATER: a LEG that is come to a second ahead of it is passed. */
    private static void waterAtEachLeg() {
        for (int distance : new int[] {59, 60}) {
            TideDesk d = over(1000);
            d.dredge(0, 1, 0);
            d.leg(0, 0, distance, NO_MARK);
            d.ship(LIGHT, 0, 100, 0, 0, 0);
            due.row("LEG 1 at " + distance, Due.row(1, distance == 59 ? 1 : 0, 0), d.holds(0, 0, 1438), d.holds(0, 0, 1439),
                d.holds(0, 0, 1440));
        }
    }

    /** A HIGH at minute 1440, DAY 1 being higher than DAY 0; STREAMS by the hours from it. */
    private static TideDesk streaming() {
        TideDesk d = new TideDesk();
        d.mean(0, 500);
        d.survey(0, 0);
        d.mean(0, 600);
        d.survey(0, 1);
        d.rule(2, 60);
        d.waters(0, 1799, 30);
        d.shoal(0, 0, 0);
        d.ship(LIGHT, 0, 100, 0, 0, 0);
        return d;
    }

    /** "the STREAM at u, without sign, is below it". */
    private static void belowTheMark() {
        float[] marks = {0.0f, -0.0f, Float.MIN_VALUE, 1.5f, 20.0f, Float.MAX_VALUE, Float.POSITIVE_INFINITY};
        float[] streams = {0.0f, -0.0f, Float.MIN_VALUE, -Float.MIN_VALUE, Math.nextDown(1.5f), 1.5f, Math.nextUp(1.5f), -Math.nextDown(1.5f),
            -1.5f, -Math.nextUp(1.5f), 20.0f, -20.0f};
        for (float mark : marks) {
            TideDesk d = streaming();
            d.leg(0, 0, 0, Due.bits(mark));
            for (float stream : streams) {
                d.tide(0, 0, Due.bits(stream));
                due.is("STREAM " + stream + ", MARK " + mark, d.holds(0, 0, 1440), Math.abs(stream) < mark ? 1 : 0);
            }
        }
    }

    /** "or NO NUMBER: none": then no STREAM is asked for. */
    private static void withoutAMark() {
        for (int none : new int[] {NO_MARK, 0x7f800001, Due.MAX, -1, 0xff800001}) {
            TideDesk d = streaming();
            d.leg(0, 0, 0, none);
            d.tide(0, 0, Due.bits(20.0f));
            due.row("no MARK", Due.row(1, 1, 0), d.holds(0, 0, 1440), d.holds(0, 0, 9999), d.count(8));
        }
        TideDesk d = streaming();
        d.leg(0, 0, 0, Due.bits(Float.POSITIVE_INFINITY));
        // The hours end six and a half of them behind the HIGH, at minute 1440 + 390.
        due.row("an endless one is one", Due.row(1, 1, Due.INDEX, 2), d.holds(0, 0, 1440), d.holds(0, 0, 1829), d.holds(0, 0, 1830),
            d.finding());
        due.row("ahead of the HIGH", Due.row(Due.INDEX, 1), d.holds(0, 0, 1049), d.holds(0, 0, 1050));
        TideDesk none = streaming();
        none.waters(0, 1799, 3);
        none.leg(0, 0, 0, 0);
        due.row("no HIGH", Due.row(Due.LACK, 7), none.holds(0, 0, 1440), none.finding());
    }

    /** "asked in this order, as far as they must". */
    private static void asFarAsTheyMust() {
        TideDesk d = streaming();
        d.shoal(1, 0, 0);
        d.leg(0, 1, 0, 0);
        d.leg(1, 0, 0, Due.bits(1.0f));
        d.ship(TOW, 0, 100, 1, 0, 0);
        d.ship(LIGHT, 3000, 100, 1, 0, 0);
        due.row("by night the WATER is not asked for", Due.row(0, Due.NULL), d.holds(1, 0, 359), d.holds(1, 0, 360));
        due.row("with too little of it the STREAM is not", Due.row(0, Due.INDEX), d.holds(2, 1, 9000), d.holds(0, 1, 9000));
        due.is("FINDINGS", d.count(8), 2);
    }

    /** "A minute m (of 0 .. 43199)". */
    private static void firstAndLastMinute() {
        TideDesk d = over(1000);
        d.ship(LIGHT, 0, 100, 0, 0, 0);
        due.row("minutes", Due.row(Due.BAD, 1, 1, Due.BAD), d.holds(0, 0, -1), d.holds(0, 0, 0), d.holds(0, 0, 43199), d.holds(0, 0, 43200));
    }

    /** "NEED, PACE, BY DAY are asked once for each minute, in this order, ahead of the LEGS". */
    private static void askedOnce() {
        TideDesk d = over(1000);
        for (int i = 0; i < 3; i++) d.leg(0, 0, 0, NO_MARK);
        d.ship(FERRY, 0, 100, 0, 0, 0);
        d.ship(TOW, 0, 100, 1, 0, 0);
        d.ship(PAIR, 0, 0, 0, 0, 1);
        due.is("holds", d.holds(2, 0, 720), 1);
        due.trace(d, 12, 10, 23, 20, 11, 10, 22, 21, 32, 30, 31, 30, 52, 50, 51);
        due.is("does not hold", d.holds(2, 0, 0), 0);
        due.trace(d, 12, 10, 23, 20, 11, 10, 22, 21, 32, 30, 31, 30, 52, 50, 51);
        d.windows(0, 0, 43198, 2);
        due.trace(d, 10, 23, 20, 30, 50, 10, 23, 20, 30, 50);
    }

    /** "of a ROUTE without LEGS, too; then PACE below 1 is NO". */
    private static void withoutLegs() {
        TideDesk d = new TideDesk();
        d.ship(DEEP, 3000, 1, 0, 0, 0);
        d.ship(TOW, 3000, 1, 1, 0, 0);
        d.ship(DEEP, 3000, 0, 0, 0, 0);
        d.ship(TOW, 0, 100, 0, 0, 0);
        d.ship(PAIR, 0, 0, 0, NONE, 0);
        due.row("minutes", Due.row(1, 1, Due.NO, Due.ZERO, Due.NULL), d.holds(0, 0, 0), d.holds(1, 0, 0), d.holds(2, 0, 0), d.holds(3, 0, 0),
            d.holds(4, 0, 0));
        due.row("windows", Due.row(1, 0, 0, 0), d.windows(0, 0, 0, 120), d.windows(2, 0, 0, 120), d.windows(3, 0, 0, 1), d.windows(4, 0, 0, 1));
    }

    /** READINGS for each minute from 0 on: enough WATER where there is a mark, none where there is a dot. */
    private static TideDesk pattern(String minutes) {
        TideDesk d = over(0);
        d.rule(0, 1);
        d.gauge(0, 0, 60);
        d.clock(60 * minutes.length());
        for (int i = 0; i < minutes.length(); i++) d.reading(0, minutes.charAt(i) == '#' ? 30 : -32768, 0);
        d.ship(LIGHT, 0, 100, 0, 0, 0);
        return d;
    }

    private static void runs(TideDesk d, String name, int... ends) {
        for (int i = 0; i < ends.length / 2; i++) {
            due.row(name + ", WINDOW " + i, Due.row(ends[2 * i], ends[2 * i + 1]), d.window(i, false), d.window(i, true));
        }
        int many = ends.length / 2;
        due.row(name + ", no more", Due.row(NONE, NONE, many), d.window(many, false), d.window(many, true), d.count(7));
    }

    private static void oneMinute() {
        TideDesk d = pattern("#.#");
        due.row("n of 0, 1", Due.row(Due.BAD, 1), d.windows(0, 0, 0, 0), d.windows(0, 0, 0, 1));
        runs(d, "one", 0, 0);
        due.is("one that does not hold", d.windows(0, 0, 1, 1), 0);
        runs(d, "none");
    }

    /** "the longest runs of minutes that hold, in order". */
    private static void longestRuns() {
        TideDesk d = pattern(".##.#...####.#");
        due.is("four", d.windows(0, 0, 0, 14), 4);
        runs(d, "four", 1, 2, 4, 4, 8, 11, 13, 13);
        due.is("cut at both ends", d.windows(0, 0, 2, 8), 3);
        runs(d, "cut at both ends", 2, 2, 4, 4, 8, 9);
        due.is("from within to within", d.windows(0, 0, 9, 2), 1);
        runs(d, "from within to within", 9, 10);
        due.is("none", d.windows(0, 0, 5, 3), 0);
        runs(d, "none");
        due.is("all", pattern("########").windows(0, 0, 0, 8), 1);
    }

    /** "(20 are kept)". */
    private static void twentyRuns() {
        TideDesk d = pattern("#.".repeat(22));
        due.row("19, 20", Due.row(19, 20), d.windows(0, 0, 0, 38), d.windows(0, 0, 0, 39));
        due.row("the 20th", Due.row(38, 38, NONE), d.window(19, false), d.window(19, true), d.window(20, false));
        due.row("a 21st", Due.row(20, 20), d.windows(0, 0, 0, 40), d.windows(0, 0, 0, 41));
        due.row("the first ones", Due.row(0, 38, 38, NONE, 20), d.window(0, false), d.window(19, false), d.window(19, true),
            d.window(20, false), d.count(7));
        due.row("others from later on", Due.row(20, 2, 40), d.windows(0, 0, 1, 42), d.window(0, false), d.window(19, true));
    }

    private static void theTwentiethRun() {
        TideDesk d = pattern("#.".repeat(19) + "####.##.#");
        due.is("20 of 22", d.windows(0, 0, 0, 47), 20);
        due.row("it ends where it does", Due.row(36, 36, 38, 41, NONE), d.window(18, false), d.window(18, true), d.window(19, false),
            d.window(19, true), d.window(20, true));
    }

    /** "a minute with a FINDING, or NO, does not hold". */
    private static void findingsAndNoBetweenRuns() {
        TideDesk d = streaming();
        d.leg(0, 0, 0, Due.bits(1.0f));
        due.is("INDEX behind the hours", d.windows(0, 0, 1820, 20), 1);
        runs(d, "INDEX", 1820, 1829);
        due.row("wrong", Due.row(10, 2), d.wrong(0), d.wrong(1));
        d.leg(1, 0, 0, NO_MARK);
        d.leg(1, 0, 150, NO_MARK);
        due.is("NO at the end of all MOMENTS", d.windows(0, 1, 43190, 10), 1);
        runs(d, "NO", 43190, 43197);
        due.row("NO is not wrong", Due.row(0, 0), d.wrong(0), d.wrong(1));
    }

    /** "Of the minutes of the latest windows() that was not refused: how many had a FINDING, the FINDING of the last of these". */
    private static void wrongs() {
        TideDesk d = new TideDesk();
        d.survey(0, 1);
        d.shoal(0, 1000, 0);
        d.leg(0, 0, 0, Due.bits(1.0f));
        d.ship(LIGHT, 0, 100, 0, 0, 0);
        d.ship(TOW, 0, 100, 0, 0, 0);
        due.row("before", Due.row(0, 0, Due.BAD, Due.BAD), d.wrong(0), d.wrong(1), d.wrong(-1), d.wrong(2));
        d.windows(0, 0, 1438, 2);
        due.row("NULL alone", Due.row(2, 1, 1, 2), d.wrong(0), d.wrong(1), d.finding(), d.count(8));
        d.windows(0, 0, 1438, 3);
        due.row("NULL twice, then LACK", Due.row(3, 7, 7, 5), d.wrong(0), d.wrong(1), d.finding(), d.count(8));
        d.windows(0, 0, 0, 121);
        d.windows(0, 0, 43199, 2);
        d.windows(2, 0, 0, 1);
        d.ask(1, 2);
        d.holds(0, 0, 0);
        due.row("by no other call", Due.row(3, 7, 1, 7), d.wrong(0), d.wrong(1), d.finding(), d.count(8));
        d.windows(0, 5, 0, 120);
        due.row("none; finding() stays", Due.row(0, 0, 1, 7), d.wrong(0), d.wrong(1), d.finding(), d.count(8));
        d.windows(1, 5, 0, 120);
        due.row("all", Due.row(120, 4, 4, 127), d.wrong(0), d.wrong(1), d.finding(), d.count(8));
    }
}
