/** The edges that section 3 and promises 18 to 21 name, each with what lies on both sides of it. */
public final class ShoalsEdgesTest {
    private static final Due due = new Due("ShoalsEdgesTest");
    private static final int DAY = 86400, LAST = Due.LAST_MOMENT;

    public static void main(String[] args) {
        sixteenShoals();
        sixtyDredgings();
        bedsInHundredths();
        theFirstBedFromDayZeroOn();
        dredgedFromADayOn();
        dredgedTwice();
        shoalKnown();
        shoalKnownButNoSurvey();
        knownNow();
        waterWithoutSurge();
        waterWithSurge();
        waterOfTheFirstGauge();
        waterInOrder();
        due.end();
    }

    /** A STATION 0 whose HEIGHT is 0.0. */
    private static TideDesk flat() {
        TideDesk d = new TideDesk();
        d.survey(0, 0);
        return d;
    }

    private static void sixteenShoals() {
        TideDesk d = flat();
        for (int i = 0; i < 15; i++) due.is("shoal", d.shoal(0, i, 0), i);
        due.row("the 16th", Due.row(15, 16), d.shoal(0, 15, 0), d.count(3));
        due.row("a 17th", Due.row(Due.FULL, 16), d.shoal(0, 16, 0), d.count(3));
        for (int i = 0; i < 16; i++) due.is("DEPTH", d.depth(i, 0, 0), Due.real(i / 100.0));
        due.row("names nothing", Due.row(Due.NO_REAL, Due.BAD), d.depth(16, 0, 0), d.dredge(16, 0, 0));
        due.is("no DREDGING", d.count(4), 0);
    }

    /** "60 DREDGINGS at most of all", in whichever order SHOALS and DREDGINGS come. */
    private static void sixtyDredgings() {
        TideDesk d = flat();
        d.shoal(0, 0, 0);
        for (int i = 1; i <= 30; i++) due.is("dredge", d.dredge(0, 0, i), i);
        for (int i = 1; i < 16; i++) d.shoal(0, 1000 + i, 0);
        for (int i = 31; i <= 58; i++) due.is("dredge", d.dredge(i % 16, 1, i), i);
        due.row("the 59th", Due.row(59, 59), d.dredge(15, 0, 159), d.count(4));
        due.row("the 60th", Due.row(60, 60), d.dredge(15, 0, 160), d.count(4));
        due.row("a 61st", Due.row(Due.FULL, 60), d.dredge(15, 0, 161), d.count(4));
        due.row("BEDS", Due.row(Due.real(0.3), Due.real(10.01), Due.real(1.6)), d.depth(0, 0, 0), d.depth(1, 0, 0), d.depth(15, 0, 0));
    }

    /** "BEDS (-1000 .. 5000; hundredths, downward)". */
    private static void bedsInHundredths() {
        for (int bed : new int[] {-1000, -999, -1, 0, 1, 4999, 5000}) {
            TideDesk d = flat();
            d.shoal(0, bed, 0);
            d.shoal(0, 7, 0);
            d.dredge(1, 0, bed);
            due.row("BED " + bed, Due.row(Due.real(bed / 100.0), Due.real(bed / 100.0)), d.depth(0, 0, 0), d.depth(1, 0, 0));
        }
    }

    /** "the first from DAY 0 on, as the SHOAL is told": on whichever DAY that is. */
    private static void theFirstBedFromDayZeroOn() {
        TideDesk d = flat();
        d.clock(5 * DAY);
        d.shoal(0, 123, 0);
        due.row("on all DAYS", Due.row(Due.real(1.23), Due.real(1.23)), d.depth(0, 0, 5 * DAY), d.depth(0, LAST, 5 * DAY));
        d.dredge(0, 0, 456);
        due.row("a DREDGING from DAY 0 on is told last", Due.row(Due.real(4.56), Due.real(4.56)), d.depth(0, 0, 5 * DAY),
            d.depth(0, LAST, 5 * DAY));
    }

    /** "told as the SURVEYS are": from a DAY on. */
    private static void dredgedFromADayOn() {
        for (int day : new int[] {1, 2, 28, 29}) {
            TideDesk d = flat();
            d.shoal(0, 100, 0);
            d.dredge(0, day, 300);
            due.row("DAY " + day, Due.row(Due.real(1.0), Due.real(3.0), Due.real(3.0), Due.real(3.0)), d.depth(0, day * DAY - 1, 0),
                d.depth(0, day * DAY, 0), d.depth(0, day * DAY + DAY - 1, 0), d.depth(0, LAST, 0));
        }
    }

    /** The greatest DAY, of like ones the one told last. */
    private static void dredgedTwice() {
        TideDesk d = flat();
        d.shoal(0, 100, 0);
        d.shoal(0, 900, 0);
        d.dredge(0, 4, 400);
        d.dredge(0, 3, 300);
        due.row("the greatest DAY", Due.row(Due.real(1.0), Due.real(3.0), Due.real(3.0), Due.real(4.0)), d.depth(0, 3 * DAY - 1, 0),
            d.depth(0, 3 * DAY, 0), d.depth(0, 4 * DAY - 1, 0), d.depth(0, 4 * DAY, 0));
        d.clock(50);
        d.dredge(0, 4, 444);
        due.row("of like ones the one told last, as KNOWN", Due.row(Due.real(4.0), Due.real(4.44)), d.depth(0, 4 * DAY, 49),
            d.depth(0, 4 * DAY, 50));
        d.dredge(0, 3, 333);
        due.row("of its DAY", Due.row(Due.real(3.33), Due.real(4.44)), d.depth(0, 4 * DAY - 1, 50), d.depth(0, 4 * DAY, 50));
        due.is("another SHOAL's stays", d.depth(1, LAST, 50), Due.real(9.0));
    }

    /** "NULL: the SHOAL is not KNOWN, first"; "k (not above NOW)". */
    private static void shoalKnown() {
        TideDesk d = flat();
        d.clock(100);
        d.shoal(0, 100, 0);
        due.row("before, at, behind", Due.row(Due.NO_REAL, Due.real(1.0), Due.NO_REAL), d.depth(0, 0, 99), d.depth(0, 0, 100),
            d.depth(0, 0, 101));
        due.row("NULL before, BAD behind NOW", Due.row(1, 1), d.finding(), d.count(8));
        d.clock(101);
        due.row("a second later", Due.row(Due.NO_REAL, Due.real(1.0), Due.real(1.0)), d.depth(0, 0, 99), d.depth(0, 0, 100),
            d.depth(0, 0, 101));
    }

    private static void shoalKnownButNoSurvey() {
        TideDesk d = new TideDesk();
        d.shoal(0, 100, 0);
        d.clock(100);
        d.mean(0, 50);
        d.survey(0, 1);
        due.row("as KNOWN before the SURVEY, and then", Due.row(Due.NO_REAL, Due.real(1.5)), d.depth(0, DAY, 99), d.depth(0, DAY, 100));
        due.row("ahead of its DAY", Due.row(Due.NO_REAL, Due.NO_REAL), d.depth(0, DAY - 1, 100), d.water(0, DAY - 1));
        due.is("on its DAY", d.water(0, DAY), Due.real(1.5));
        due.row("NULL", Due.row(1, 3), d.finding(), d.count(8));
    }

    /** "WATER at t: DEPTH as KNOWN NOW". */
    private static void knownNow() {
        TideDesk d = flat();
        d.shoal(0, 100, 0);
        due.is("at first", d.water(0, 0), Due.real(1.0));
        d.clock(100);
        d.dredge(0, 0, 200);
        due.is("dredged", d.water(0, 0), Due.real(2.0));
        d.mean(0, 30);
        d.survey(0, 0);
        due.is("surveyed", d.water(0, 0), Due.real(2.3));
        due.is("as KNOWN before", d.depth(0, 0, 99), Due.real(1.0));
        d.gauge(0, 0, 60);
        d.reading(0, 100, 0);
        due.is("the SURGE, too", d.water(0, 0), Due.real(2.0 + 0.3 + (1.0 - 0.3)));
        d.clock(101);
        d.mean(0, 40);
        d.survey(0, 0);
        due.is("and again", d.water(0, 0), Due.real(2.0 + 0.4 + (1.0 - 0.4)));
    }

    /** "if there is such a one, it is in, and a READING is there": else DEPTH alone, and no FINDING. */
    private static void waterWithoutSurge() {
        TideDesk d = flat();
        d.shoal(0, 100, 0);
        d.shoal(1, 100, 0);
        d.survey(1, 0);
        d.clock(600);
        due.is("no GAUGE", d.water(0, 600), Due.real(1.0));
        d.gauge(0, 60, 60);
        due.is("no READING", d.water(0, 600), Due.real(1.0));
        d.reading(0, 50, 0);
        due.row("ahead of the READING, and at it", Due.row(Due.real(1.0), Due.real(1.5)), d.water(0, 59), d.water(0, 60));
        d.out(0, true);
        due.is("OUT", d.water(0, 60), Due.real(1.0));
        d.out(0, false);
        d.rule(0, 1);
        d.reading(0, -32768, 0);
        due.row("there, and not there", Due.row(Due.real(1.0 + 0.5 * ((43200 - 59) / 43200.0)), Due.real(1.0)), d.water(0, 119),
            d.water(0, 120));
        due.is("another STATION's", d.water(1, 60), Due.real(1.0));
        due.row("no FINDING", Due.row(0, 0), d.finding(), d.count(8));
    }

    private static void waterWithSurge() {
        TideDesk d = flat();
        d.shoal(0, 100, 0);
        d.gauge(0, 0, 60);
        d.reading(0, -250, 0);
        d.rule(1, 1);
        due.row("it fades", Due.row(Due.real(1.0 - 2.5), Due.real(1.0 + -2.5 * (1 / 3600.0)), Due.real(1.0)), d.water(0, 0),
            d.water(0, 3599), d.water(0, 3600));
    }

    /** "of the first GAUGE told of its STATION". */
    private static void waterOfTheFirstGauge() {
        TideDesk d = flat();
        d.survey(1, 0);
        d.shoal(0, 100, 0);
        d.shoal(1, 100, 0);
        d.gauge(1, 0, 60);
        d.gauge(0, 0, 60);
        d.gauge(0, 0, 60);
        for (int g = 0; g < 3; g++) d.reading(g, 100 * (g + 1), 0);
        due.row("the first of each", Due.row(Due.real(3.0), Due.real(2.0)), d.water(0, 0), d.water(1, 0));
        d.out(2, true);
        due.is("the second is OUT", d.water(0, 0), Due.real(3.0));
        d.out(1, true);
        d.out(2, false);
        due.is("the first is OUT, though the second is in", d.water(0, 0), Due.real(1.0));
    }

    /** "(h + s)": BED and HEIGHT first, then the SURGE. */
    private static void waterInOrder() {
        TideDesk d = new TideDesk();
        d.mean(0, 20);
        d.survey(0, 0);
        d.shoal(0, 10, 0);
        d.gauge(0, 0, 60);
        d.reading(0, 50, 0);
        due.is("the SURGE", d.surge(0, 0), Due.real(0.3));
        due.is("in order", d.water(0, 0), Due.real(0.1 + 0.2 + 0.3));
        due.is("another order has another sum", Due.real(0.1 + 0.2 + 0.3) == Due.real(0.1 + (0.2 + 0.3)) ? 1 : 0, 0);
    }
}
