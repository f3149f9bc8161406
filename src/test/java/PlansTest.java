/** Promises 46 to 52. */
public final class PlansTest {
    private static final Due due = new Due("PlansTest");
    private static final int NO_MARK = Due.NO_FLOAT;

    public static void main(String[] args) {
        passage();
        planByMinutes();
        planByPatience();
        planByOrder();
        planByLocks();
        planByReaches();
        planByZeroReaches();
        planBySecondsOfLocks();
        planWithoutFormerLegs();
        planWithFindings();
        planAsks();
        plannedStaysAsItWas();
        planned();
        again();
        pass();
        passHolds();
        passWithoutFormerLegs();
        passFails();
        held();
        due.end();
    }

    /** A STATION of 10 metres; SHOALS 0, 1 without LOCKS, 2, 3 with LOCKS of 600 and 90; SHIPS of KINDS 0 to 3, PACE 100. */
    private static TideDesk desk() {
        TideDesk d = new TideDesk();
        Due.level(d, 0, 1000);
        d.shoal(0, 0, 0);
        d.shoal(0, 0, 0);
        d.shoal(0, 0, 600);
        d.shoal(0, 0, 90);
        for (int kind = 0; kind < 4; kind++) d.ship(kind, 100, 100, 1, 0, 0);
        return d;
    }

    private static void starts(TideDesk d, int... minutes) {
        for (int p = 0; p < minutes.length; p++) due.is("start of " + p, d.planned(p, 1), minutes[p]);
    }

    private static void passage() {
        TideDesk d = desk();
        due.all("passage BAD", Due.BAD, d.passage(-1, 0, 0), d.passage(4, 0, 0), d.passage(0, -1, 0), d.passage(0, 6, 0),
            d.passage(0, 0, -1), d.passage(0, 0, 43200));
        due.row("passage", Due.row(0, 1), d.passage(0, 0, 0), d.passage(3, 5, 43199));
        for (int i = 2; i < 40; i++) due.is("passage", d.passage(0, 0, 0), i);
        due.is("a 41st", d.passage(0, 0, 0), Due.FULL);
        due.is("BAD ahead of FULL", d.passage(0, 6, 0), Due.BAD);
        due.is("PASSAGES", d.count(6), 40);
        due.is("all of them are PLANNED", d.plan(), 40);
    }

    private static void planByMinutes() {
        TideDesk d = desk();
        d.leg(0, 0, 0, NO_MARK);
        d.passage(2, 0, 300);
        d.passage(2, 0, 299);
        d.passage(2, 0, 301);
        d.passage(0, 0, 43199);
        d.passage(0, 1, 17);
        due.is("plan", d.plan(), 3);
        starts(d, Due.NONE, Due.NONE, 360, 43199, 17);
        due.is("none WAITS", d.plan(), 0);
        due.is("no FINDING", d.count(8), 0);
    }

    private static void planByPatience() {
        TideDesk d = desk();
        d.sun(0, 60);
        d.leg(0, 0, 0, NO_MARK);
        int[] xs = {-1000, -90, -89, 1, 29, 30, 1000};
        for (int x : xs) {
            int ferry = d.ship(3, 0, 100, x, 0, 0);
            d.ship(4, 0, 0, 0, ferry, 2);
        }
        // PAIRS with the TOW go by day: at minute 1440 alone. Their PATIENCE is half that of the FERRY, and 30.
        int[] patience = {120, 90, 89, 44, 30, 30, -455};
        for (int i = 0; i < xs.length; i++) {
            d.passage(5 + 2 * i, 0, 1440 - Math.max(0, patience[i]));
            d.passage(5 + 2 * i, 0, 1441 - Math.max(0, patience[i]));
        }
        due.is("plan", d.plan(), 6);
        starts(d, Due.NONE, 1440, Due.NONE, 1440, Due.NONE, 1440, Due.NONE, 1440, Due.NONE, 1440, Due.NONE, 1440,
            Due.NONE, Due.NONE);
    }

    private static void planByOrder() {
        TideDesk d = desk();
        d.leg(0, 2, 0, NO_MARK);
        d.passage(0, 0, 0);
        d.passage(0, 0, 0);
        d.clock(50);
        d.passage(0, 0, 0);
        due.is("plan", d.plan(), 3);
        starts(d, 0, 10, 20);
        d.again(0);
        d.clock(60);
        d.again(1);
        d.clock(70);
        d.again(2);
        due.is("as before", d.plan(), 3);
        starts(d, 0, 10, 20);
        d.again(2);
        d.clock(80);
        d.again(0);
        d.again(1);
        d.passage(0, 0, 0);
        due.is("those that WAIT longest first", d.plan(), 4);
        starts(d, 10, 20, 0, 30);
        due.is("digest", d.digest(), (((7 * 31 + 10) * 31 + 20) * 31 + 0) * 31 + 30);
    }

    private static void planByLocks() {
        TideDesk d = desk();
        d.leg(0, 3, 0, NO_MARK);
        d.leg(1, 0, 0, NO_MARK);
        d.leg(2, 3, 60, NO_MARK);
        d.leg(3, 2, 0, NO_MARK);
        d.passage(0, 0, 5);
        d.passage(0, 0, 4);
        d.passage(0, 1, 5);
        d.passage(0, 1, 5);
        d.passage(0, 2, 4);
        d.passage(0, 3, 5);
        due.is("plan", d.plan(), 6);
        starts(d, 5, 7, 5, 5, 8, 5);
        // Its SHOAL 3 is taken from minutes 5 and 7 on for a minute and a half each; ROUTE 2 comes to it a minute late.
        TideDesk e = desk();
        e.leg(0, 2, 0, NO_MARK);
        e.leg(1, 2, 599, NO_MARK);
        e.leg(2, 2, 600, NO_MARK);
        e.passage(0, 0, 20);
        e.passage(0, 0, 10);
        e.passage(0, 2, 0);
        e.passage(0, 1, 0);
        e.passage(0, 1, 30);
        due.is("plan", e.plan(), 5);
        starts(e, 20, 10, 20, 31, 41);
    }

    private static void planByReaches() {
        TideDesk d = desk();
        d.leg(0, 0, 0, NO_MARK);
        d.leg(0, 1, 300, NO_MARK);
        d.leg(1, 1, 0, NO_MARK);
        d.leg(1, 0, 300, NO_MARK);
        d.leg(2, 0, 0, NO_MARK);
        d.leg(2, 0, 300, NO_MARK);
        d.leg(3, 0, 0, NO_MARK);
        d.leg(3, 2, 300, NO_MARK);
        d.leg(4, 0, 60, NO_MARK);
        d.leg(4, 1, 120, NO_MARK);
        d.leg(4, 0, 180, NO_MARK);
        d.passage(0, 0, 2);
        d.passage(0, 0, 0);
        d.passage(0, 1, 0);
        d.passage(0, 2, 0);
        d.passage(0, 2, 0);
        d.passage(0, 3, 0);
        d.passage(0, 4, 0);
        due.is("plan", d.plan(), 7);
        starts(d, 2, 7, 12, 0, 5, 0, 16);
        d.passage(0, 4, 0);
        d.plan();
        due.is("there and back", d.planned(7, 1), 18);
        d.again(0);
        d.passage(1, 4, 0);
        due.is("plan", d.plan(), 2);
        due.row("of like ones by numbers", Due.row(2, 20), d.planned(0, 1), d.planned(8, 1));
    }

    /** A REACH that takes no time begins ahead of the end of one that takes some, if it is within it. */
    private static void planByZeroReaches() {
        TideDesk d = desk();
        d.leg(0, 0, 0, NO_MARK);
        d.leg(0, 1, 120, NO_MARK);
        d.leg(1, 0, 0, NO_MARK);
        d.leg(1, 1, 0, NO_MARK);
        d.passage(0, 1, 4);
        d.passage(0, 1, 4);
        d.passage(0, 0, 2);
        d.passage(0, 0, 4);
        due.is("plan", d.plan(), 4);
        starts(d, 4, 4, 2, 4);
        d.passage(0, 1, 3);
        d.plan();
        due.is("within", d.planned(4, 1), 4);
        d.passage(0, 1, 5);
        d.plan();
        due.is("within", d.planned(5, 1), 6);
        d.passage(0, 0, 3);
        d.plan();
        due.is("none within", d.planned(6, 1), 6);
    }

    private static void planBySecondsOfLocks() {
        TideDesk d = desk();
        int shoal = d.shoal(0, 0, 1);
        d.leg(0, shoal, 0, NO_MARK);
        d.passage(0, 0, 0);
        d.passage(0, 0, 0);
        due.is("plan", d.plan(), 2);
        starts(d, 0, 1);
    }

    private static void planWithoutFormerLegs() {
        TideDesk d = desk();
        d.leg(0, 0, 0, NO_MARK);
        d.leg(0, 2, 0, NO_MARK);
        d.clear(0);
        d.leg(0, 0, 0, NO_MARK);
        d.passage(0, 0, 0);
        d.passage(0, 0, 0);
        due.is("plan", d.plan(), 2);
        starts(d, 0, 0);
        TideDesk four = desk();
        for (int i = 0; i < 4; i++) four.leg(5, 2, 0, NO_MARK);
        four.passage(0, 5, 0);
        four.passage(0, 5, 0);
        due.is("plan", four.plan(), 2);
        starts(four, 0, 10);
        TideDesk e = desk();
        e.leg(0, 0, 0, NO_MARK);
        e.leg(0, 1, 300, NO_MARK);
        e.clear(0);
        e.leg(0, 0, 0, NO_MARK);
        e.leg(1, 0, 0, NO_MARK);
        e.leg(1, 1, 300, NO_MARK);
        e.passage(0, 1, 100);
        e.passage(0, 0, 100);
        e.plan();
        e.again(0);
        e.plan();
        starts(e, 100, 100);
    }

    private static void planWithFindings() {
        TideDesk d = desk();
        d.shoal(1, 0, 0);
        d.leg(0, 4, 0, NO_MARK);
        d.ship(4, 0, 0, 0, 0, -1);
        d.ship(2, 0, 100, 0, 0, 0);
        d.ship(1, 0, 0, 0, 0, 0);
        d.passage(4, 1, 0);
        d.passage(5, 1, 0);
        d.passage(0, 0, 0);
        d.passage(6, 1, 0);
        d.passage(0, 1, 0);
        due.is("plan", d.plan(), 1);
        starts(d, Due.NONE, Due.NONE, Due.NONE, Due.NONE, 0);
        due.row("a FINDING of each: NULL, ZERO, NULL", Due.row(1, 3), d.finding(), d.count(8));
        due.row("PLANNED, though", Due.row(0, 0, 0), d.planned(0, 0), d.planned(1, 0), d.planned(2, 0));
        d.again(1);
        d.again(3);
        due.is("ZERO; NO", d.plan(), 0);
        due.row("ZERO", Due.row(4, 4), d.finding(), d.count(8));
        TideDesk e = desk();
        e.survey(1, 1);
        e.shoal(1, 500, 0);
        e.leg(0, 4, 0, NO_MARK);
        e.passage(0, 0, 1439);
        e.passage(0, 0, 1440);
        due.is("by a FINDING of its first minute it has none", e.plan(), 1);
        starts(e, Due.NONE, 1440);
        due.is("FINDINGS", e.count(8), 1);
    }

    private static void planAsks() {
        TideDesk d = desk();
        d.sun(0, 0);
        d.leg(0, 0, 0, NO_MARK);
        d.passage(1, 0, 0);
        d.passage(2, 1, 43199);
        d.passage(2, 0, 43198);
        d.plan();
        due.trace(d, 41, 10, 20, 30, 50, 40, 11, 10, 22, 21, 31, 30, 51, 40, 11, 10, 22, 21, 31, 30, 51, 11, 10, 22, 21, 31, 30, 51);
        d.plan();
        due.trace(d);
        d.ship(3, 0, 100, 30, 0, 0);
        d.passage(4, 0, 0);
        due.is("no PATIENCE", d.plan(), 0);
        due.trace(d, 42, 41);
    }

    private static void plannedStaysAsItWas() {
        TideDesk d = desk();
        d.leg(0, 2, 0, NO_MARK);
        d.passage(0, 0, 0);
        d.plan();
        d.mean(0, -2000);
        d.survey(0, 0);
        due.is("its start", d.planned(0, 1), 0);
        d.mean(0, 1000);
        d.survey(0, 0);
        d.passage(1, 0, 0);
        d.plan();
        due.trace(d, 41, 10, 20, 30, 50, 10, 20, 30, 50, 10, 20, 30, 50, 10, 20, 30, 50, 10, 20, 30, 50, 10, 20, 30, 50,
            10, 20, 30, 50, 10, 20, 30, 50, 10, 20, 30, 50, 10, 20, 30, 50, 10, 20, 30, 50);
        starts(d, 0, 10);
    }

    private static void planned() {
        TideDesk d = desk();
        due.is("names nothing", d.planned(0, 0), Due.BAD);
        d.clock(33);
        d.passage(0, 0, 9);
        due.row("it WAITS", Due.row(1, Due.NONE, 33), d.planned(0, 0), d.planned(0, 1), d.planned(0, 2));
        d.clock(44);
        d.plan();
        due.row("it is PLANNED", Due.row(0, 9, 33), d.planned(0, 0), d.planned(0, 1), d.planned(0, 2));
        due.all("planned BAD", Due.BAD, d.planned(-1, 0), d.planned(1, 0), d.planned(0, -1), d.planned(0, 3));
    }

    private static void again() {
        TideDesk d = desk();
        due.is("names nothing", d.again(0), Due.BAD);
        d.passage(0, 0, 9);
        due.is("it WAITS", d.again(0), Due.NO);
        d.plan();
        d.clock(70);
        due.is("again", d.again(0), 1);
        due.row("it WAITS", Due.row(1, Due.NONE, 70), d.planned(0, 0), d.planned(0, 1), d.planned(0, 2));
        due.row("it WAITS, BAD", Due.row(Due.NO, Due.BAD, Due.BAD), d.again(0), d.again(1), d.again(-1));
        due.is("plan", d.plan(), 1);
        d.ship(3, 0, 0, 1000, 0, 0);
        d.passage(4, 0, 0);
        due.is("without a start", d.plan(), 0);
        due.is("again", d.again(1), 1);
    }

    private static void pass() {
        TideDesk d = desk();
        due.is("names nothing", d.pass(0), Due.BAD);
        due.is("no TRY", d.tries(), 0);
        d.leg(0, 2, 0, NO_MARK);
        d.leg(0, 0, 0, NO_MARK);
        d.leg(0, 3, 0, NO_MARK);
        d.passage(2, 0, 0);
        d.passage(0, 1, 0);
        due.is("pass", d.pass(0), 1);
        due.trace(d, 11, 10, 22, 21, 31, 30, 40);
        due.row("held", Due.row(0, 2), d.held(0), d.held(1));
        due.is("without LEGS", d.pass(1), 1);
        due.row("held", Due.row(0, 0), d.held(0), d.held(1));
        due.is("TRIES", d.tries(), 2);
        d.pass(0);
        due.all("pass BAD", Due.BAD, d.pass(-1), d.pass(2));
        due.row("BAD leaves all", Due.row(3, 2, 0), d.tries(), d.held(1), d.count(8));
        due.trace(d, 11, 10, 22, 21, 31, 30, 40);
        due.row("it WAITS on", Due.row(1, Due.NONE), d.planned(0, 0), d.planned(0, 1));
        d.plan();
        due.is("one that has a start", d.pass(0), 1);
    }

    private static void passHolds() {
        TideDesk d = desk();
        d.leg(0, 2, 0, NO_MARK);
        d.leg(0, 3, 0, NO_MARK);
        d.leg(0, 2, 0, NO_MARK);
        d.leg(1, 0, 0, NO_MARK);
        d.leg(1, 0, 0, NO_MARK);
        d.leg(1, 2, 0, NO_MARK);
        d.passage(0, 0, 0);
        d.passage(0, 1, 0);
        due.is("HELD already", d.pass(0), Due.HELD);
        due.trace(d, 11, 10, 21);
        due.row("HELD", Due.row(8, 1, 0, 2, 1), d.finding(), d.count(8), d.held(0), d.held(1), d.tries());
        due.is("a SHOAL without a LOCK twice; the other is free again", d.pass(1), 1);
        due.is("held", d.held(1), 1);
        due.is("HELD again", d.pass(0), Due.HELD);
    }

    private static void passWithoutFormerLegs() {
        TideDesk d = desk();
        d.leg(0, 2, 0, NO_MARK);
        d.leg(0, 3, 0, NO_MARK);
        d.passage(0, 0, 0);
        due.row("two are HELD", Due.row(1, 2), d.pass(0), d.held(1));
        d.clear(0);
        d.leg(0, 2, 0, NO_MARK);
        due.row("one is HELD", Due.row(1, 1), d.pass(0), d.held(1));
        TideDesk e = new TideDesk();
        e.shoal(0, 0, 60);
        e.leg(0, 0, 0, NO_MARK);
        e.ship(0, 0, 100, 0, 0, 0);
        e.passage(0, 0, 0);
        due.row("SHOAL 0 is free again", Due.row(1, 1), e.pass(0), e.pass(0));
        while (d.count(3) < 16) d.shoal(0, 0, 60);
        d.leg(0, 15, 0, NO_MARK);
        due.row("of sixteen SHOALS, each time", Due.row(1, 2, 1, 2), d.pass(0), d.held(1), d.pass(0), d.held(1));
    }

    private static void passFails() {
        TideDesk d = desk();
        d.leg(0, 2, 0, NO_MARK);
        d.leg(0, 3, 0, NO_MARK);
        d.ship(2, 0, 100, 0, 0, 0);
        d.ship(4, 0, 0, 0, 0, -1);
        d.ship(1, 0, 0, 0, 0, 0);
        d.passage(4, 0, 0);
        d.passage(5, 0, 0);
        d.passage(6, 0, 0);
        due.is("ZERO of its PACE", d.pass(0), Due.ZERO);
        due.trace(d, 11, 10, 22, 21, 31, 30);
        due.row("with all of them HELD", Due.row(4, 0, 2), d.finding(), d.held(0), d.held(1));
        due.is("NULL of its NEED", d.pass(1), Due.NULL);
        due.trace(d, 12, 11, 10, 21);
        due.row("with none HELD", Due.row(1, 0, 0), d.finding(), d.held(0), d.held(1));
        due.is("a PACE of nothing", d.pass(2), 1);
        due.row("TRIES, FINDINGS", Due.row(3, 2), d.tries(), d.count(8));
        // A PAIR whose first PART is a TOW of x 0 and whose second is NOTHING: the NEED is NULL, ahead of all else.
        d.ship(4, 0, 0, 0, 4, -1);
        d.passage(7, 0, 0);
        due.is("NEED first", d.pass(3), Due.NULL);
    }

    private static void held() {
        TideDesk d = desk();
        due.row("before", Due.row(0, 0), d.held(0), d.held(1));
        due.all("held BAD", Due.BAD, d.held(-1), d.held(2));
    }
}
