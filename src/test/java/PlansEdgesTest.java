/** The edges that section 6 and promises 46 to 55 name, each with what lies on both sides of it. */
public final class PlansEdgesTest {
    private static final Due due = new Due("PlansEdgesTest");
    private static final int NO_MARK = Due.NO_FLOAT, NONE = Due.NONE, LIGHT = 1, TOW = 2, FERRY = 3, PAIR = 4;
    /** SHIPS of each desk here: a FERRY that has PATIENCE for one minute alone, a LIGHT of 30 minutes; both make a metre a second. */
    private static final int ONCE = 0, PATIENT = 1;

    public static void main(String[] args) {
        fortyPassages();
        asManyMinutesAsItsPatience();
        hundredAndTwentyMinutes();
        upToTheLastMinute();
        patienceIsAskedOnce();
        byAFindingNone();
        findingsOfPlansMinutes();
        findingThatCameLast();
        longestFirst();
        lockSeconds();
        lockOfNothing();
        locksApart();
        lockOfEachLeg();
        reachSeconds();
        reachOfNoTime();
        reachesOfTheSameTwo();
        reachesAndLocksApart();
        reachOfLaterLegs();
        thoseWithoutAStart();
        ownFormerStart();
        asWhenItWasPlanned();
        firstMinuteThatFits();
        howManyHaveAStart();
        plannedTells();
        againFromNowOn();
        passHoldsLocks();
        passTriesAndFrees();
        digests();
        due.end();
    }

    /** A STATION of 50 metres, with SHOALS of those LOCKS. */
    private static TideDesk desk(int... locks) {
        TideDesk d = new TideDesk();
        d.mean(0, 2000);
        d.survey(0, 0);
        d.ship(FERRY, 0, 100, 29, 0, 0);
        d.ship(LIGHT, 0, 100, 0, 0, 0);
        for (int lock : locks) d.shoal(0, 3000, lock);
        return d;
    }

    private static void starts(TideDesk d, String name, int... minutes) {
        for (int p = 0; p < minutes.length; p++) due.is(name + ", start of " + p, d.planned(p, 1), minutes[p]);
    }

    private static void fortyPassages() {
        TideDesk d = desk();
        for (int i = 0; i < 39; i++) due.is("passage", d.passage(ONCE, 5, i), i);
        due.row("the 40th", Due.row(39, 40), d.passage(ONCE, 5, 43199), d.count(6));
        due.row("a 41st", Due.row(Due.FULL, 40, Due.BAD), d.passage(ONCE, 5, 0), d.count(6), d.planned(40, 0));
        due.is("plan", d.plan(), 40);
        for (int i = 0; i < 39; i++) due.is("start", d.planned(i, 1), i);
        due.is("start", d.planned(39, 1), 43199);
    }

    /** Enough WATER from minute 1440 on alone; a FERRY has a PATIENCE of 30 less its x. */
    private static int startOf(int patience, int ahead) {
        TideDesk d = new TideDesk();
        d.survey(0, 0);
        d.mean(0, 2000);
        d.survey(0, 1);
        d.shoal(0, 0, 0);
        d.leg(0, 0, 0, NO_MARK);
        d.ship(FERRY, 0, 100, 30 - patience, 0, 0);
        d.passage(0, 0, 1440 - ahead);
        int many = d.plan();
        due.is("plan", many, d.planned(0, 1) == NONE ? 0 : 1);
        due.is("it is PLANNED", d.planned(0, 0), 0);
        return d.planned(0, 1);
    }

    /** "as many as its PATIENCE says (..; below 1: none ..)". */
    private static void asManyMinutesAsItsPatience() {
        due.row("PATIENCE of 0 and below", Due.row(NONE, NONE, NONE, NONE), startOf(0, 0), startOf(-1, 0), startOf(-970, 0), startOf(0, 1));
        due.row("of 1", Due.row(1440, NONE, 1441), startOf(1, 0), startOf(1, 1), startOf(1, -1));
        due.row("of 2", Due.row(1440, 1440, NONE), startOf(2, 0), startOf(2, 1), startOf(2, 2));
        due.row("of 30", Due.row(1440, NONE), startOf(30, 29), startOf(30, 30));
    }

    /** "120 at most". */
    private static void hundredAndTwentyMinutes() {
        due.row("of 119", Due.row(1440, NONE), startOf(119, 118), startOf(119, 119));
        due.row("of 120", Due.row(1440, NONE), startOf(120, 119), startOf(120, 120));
        due.row("of 121", Due.row(1440, NONE), startOf(121, 119), startOf(121, 120));
        due.row("of 1030", Due.row(1440, NONE), startOf(1030, 119), startOf(1030, 120));
    }

    /** "and up to 43199": one is in the LOCK from minute 43198 on. */
    private static void upToTheLastMinute() {
        for (int lock : new int[] {60, 61, 120}) {
            TideDesk d = desk(lock);
            d.leg(0, 0, 0, NO_MARK);
            d.passage(PATIENT, 0, 43198);
            d.passage(PATIENT, 0, 43198);
            d.passage(PATIENT, 0, 43199);
            due.is("plan", d.plan(), lock == 60 ? 2 : 1);
            starts(d, "LOCK of " + lock, 43198, lock == 60 ? 43199 : NONE, NONE);
        }
        TideDesk d = desk(0);
        d.leg(0, 0, 0, NO_MARK);
        d.sun(0, 0);
        d.ship(TOW, 0, 100, 1, 0, 0);
        d.passage(2, 0, 43198);
        d.plan();
        due.trace(d, 40, 11, 10, 22, 21, 31, 30, 51, 11, 10, 22, 21, 31, 30, 51);
        d.passage(2, 0, 43199);
        d.plan();
        due.trace(d, 40, 11, 10, 22, 21, 31, 30, 51);
    }

    /** "asked once, ahead of the minutes". */
    private static void patienceIsAskedOnce() {
        TideDesk d = desk(120);
        d.leg(0, 0, 0, NO_MARK);
        d.passage(PATIENT, 0, 0);
        d.passage(PATIENT, 0, 0);
        d.plan();
        due.trace(d, 41, 10, 20, 30, 50, 41, 10, 20, 30, 50, 10, 20, 30, 50, 10, 20, 30, 50);
        d.ship(FERRY, 0, 100, 30, 0, 0);
        d.passage(2, 0, 0);
        d.plan();
        due.trace(d, 42, 41);
    }

    /** "by a FINDING, of PATIENCE or of a minute, it has none": a minute that would hold comes too late. */
    private static void byAFindingNone() {
        TideDesk d = desk();
        d.survey(1, 1);
        d.shoal(1, 3000, 0);
        d.leg(0, 0, 0, NO_MARK);
        d.passage(PATIENT, 0, 1439);
        d.passage(PATIENT, 0, 1440);
        due.row("NULL in its first minute", Due.row(1, 1, 1), d.plan(), d.finding(), d.count(8));
        starts(d, "NULL", NONE, 1440);
        due.row("it is PLANNED", Due.row(0, 0), d.planned(0, 0), d.planned(1, 0));
        d.ship(PAIR, 0, 0, 0, PATIENT, NONE);
        d.passage(2, 5, 0);
        due.row("NULL of its PATIENCE", Due.row(0, 1, 2), d.plan(), d.finding(), d.count(8));
        due.trace(d, 43, 41);
        due.row("it is PLANNED", Due.row(0, NONE), d.planned(2, 0), d.planned(2, 1));
        d.ship(LIGHT, 0, 0, 0, 0, 0);
        d.passage(3, 5, 0);
        due.row("NO is no FINDING", Due.row(0, 2, NONE), d.plan(), d.count(8), d.planned(3, 1));
        due.row("of NO all minutes are asked", Due.row(41, 10, 10), d.trace(0), d.trace(1), d.trace(97));
    }

    /** A FINDING behind minutes that do not hold: a TOW at night, then NULL at RISE. */
    private static void findingsOfPlansMinutes() {
        TideDesk d = desk();
        d.shoal(1, 0, 0);
        d.leg(0, 0, 0, NO_MARK);
        d.ship(TOW, 0, 100, 1, 0, 0);
        d.passage(2, 0, 358);
        due.row("plan", Due.row(0, 1, 1), d.plan(), d.finding(), d.count(8));
        due.trace(d, 40, 11, 10, 22, 21, 31, 30, 51, 11, 10, 22, 21, 31, 30, 51, 11, 10, 22, 21, 31, 30, 51);
        d.passage(2, 0, 300);
        due.row("60 minutes by night", Due.row(0, 1, 0, NONE), d.plan(), d.count(8), d.planned(1, 0), d.planned(1, 1));
        d.passage(2, 0, 301);
        due.row("the 60th is at RISE", Due.row(0, 2, 0, NONE), d.plan(), d.count(8), d.planned(2, 0), d.planned(2, 1));
    }

    /** "of windows(), plan(): the last one that came, by a minute or a PATIENCE". */
    private static void findingThatCameLast() {
        for (int turn = 0; turn < 2; turn++) {
            TideDesk d = desk();
            d.ship(TOW, 0, 100, 0, 0, 0);
            d.ship(PAIR, 0, 0, 0, NONE, NONE);
            d.passage(turn == 0 ? 2 : 3, 5, 0);
            d.passage(turn == 0 ? 3 : 2, 5, 0);
            d.passage(PATIENT, 5, 0);
            due.row("a minute's ZERO, a PATIENCE's NULL", Due.row(1, turn == 0 ? 1 : 4, 2), d.plan(), d.finding(), d.count(8));
            due.row("a plan without one leaves it", Due.row(0, turn == 0 ? 1 : 4, 2), d.plan(), d.finding(), d.count(8));
        }
    }

    /** "those that WAIT longest first, of like ones by numbers": who comes first has the LOCK. */
    private static void longestFirst() {
        TideDesk d = desk(60);
        d.leg(0, 0, 0, NO_MARK);
        for (int p = 0; p < 3; p++) d.passage(PATIENT, 0, 0);
        d.plan();
        starts(d, "by numbers", 0, 1, 2);
        d.clock(10);
        d.again(2);
        d.clock(11);
        d.again(0);
        d.again(1);
        d.passage(PATIENT, 0, 0);
        d.plan();
        starts(d, "2 by a second", 1, 2, 0, 3);
        for (int p = 3; p >= 0; p--) d.again(p);
        d.plan();
        starts(d, "by numbers, whichever was told first", 0, 1, 2, 3);
    }

    /** Whether one that comes to LEG 0 so many seconds behind (or ahead of) another gets its minute. */
    private static int startBeside(TideDesk d, int route, int comes, int shoal, int other, int reach) {
        int minute = Math.floorDiv(comes, 60);
        d.leg(route, shoal, comes - 60 * minute, NO_MARK);
        if (other >= 0) d.leg(route, other, comes - 60 * minute + reach, NO_MARK);
        int p = d.passage(ONCE, route, minute);
        d.plan();
        int start = d.planned(p, 1);
        due.is("its minute or none", start == minute || start == NONE ? 1 : 0, 1);
        return start == NONE ? 0 : 1;
    }

    /** "from when it comes to it for LOCK seconds"; "each begins to be there ahead of the other's end". */
    private static void lockSeconds() {
        for (int lock : new int[] {1, 2, 59, 60, 61, 600, 7199, 7200}) {
            int[] beside = {-lock - 1, -lock, -lock + 1, 0, lock - 1, lock, lock + 1};
            int[] goes = {1, 1, 0, 0, 0, 1, 1};
            for (int i = 0; i < beside.length; i++) {
                TideDesk d = desk(lock);
                d.leg(0, 0, 0, NO_MARK);
                d.passage(ONCE, 0, 200);
                d.plan();
                due.is("LOCK of " + lock + ", " + beside[i] + " seconds", startBeside(d, 1, 12000 + beside[i], 0, -1, 0), goes[i]);
            }
        }
    }

    /** "with a LOCK (not 0)". */
    private static void lockOfNothing() {
        TideDesk d = desk(0, 1);
        d.leg(0, 0, 0, NO_MARK);
        d.leg(1, 1, 0, NO_MARK);
        d.passage(ONCE, 0, 5);
        d.passage(ONCE, 0, 5);
        d.passage(ONCE, 1, 5);
        d.passage(ONCE, 1, 5);
        due.is("plan", d.plan(), 3);
        starts(d, "0 and 1", 5, 5, 5, NONE);
    }

    private static void locksApart() {
        TideDesk d = desk(600, 600);
        d.leg(0, 0, 0, NO_MARK);
        d.leg(1, 1, 0, NO_MARK);
        d.passage(ONCE, 0, 5);
        d.passage(ONCE, 1, 5);
        d.passage(ONCE, 0, 5);
        d.passage(ONCE, 1, 5);
        due.is("each has its own", d.plan(), 2);
        starts(d, "LOCKS", 5, 5, NONE, NONE);
    }

    /** The LOCK of the fourth LEG of the one is that of the first, second, fourth of another. */
    private static void lockOfEachLeg() {
        int[][] distances = {{300}, {0, 300}, {0, 0, 0, 300}};
        for (int[] legs : distances) {
            // Their other SHOALS are not the same, so that they share no REACH.
            TideDesk d = desk(0, 0, 0, 10, 0, 0, 0);
            for (int i = 0; i < 4; i++) d.leg(0, i, 100 * i, NO_MARK);
            for (int i = 0; i < legs.length; i++) d.leg(1, i == legs.length - 1 ? 3 : 4 + i, legs[i], NO_MARK);
            d.passage(ONCE, 0, 10);
            d.passage(ONCE, 1, 10);
            d.passage(ONCE, 1, 11);
            due.is("plan", d.plan(), 2);
            starts(d, "LEG " + legs.length, 10, NONE, 11);
        }
    }

    /** "in a REACH .. from when it comes to the one till it comes to the other". */
    private static void reachSeconds() {
        int[][] lengths = {{300, 300}, {300, 100}, {300, 500}, {1, 1}, {1, 60}, {60, 1}};
        for (int[] length : lengths) {
            int[] beside = {-length[1] - 1, -length[1], -length[1] + 1, 0, length[0] - 1, length[0], length[0] + 1};
            int[] goes = {1, 1, 0, 0, 0, 1, 1};
            for (int i = 0; i < beside.length; i++) {
                for (int turned = 0; turned < 2; turned++) {
                    TideDesk d = desk(0, 0);
                    d.leg(0, 0, 0, NO_MARK);
                    d.leg(0, 1, length[0], NO_MARK);
                    d.passage(ONCE, 0, 200);
                    d.plan();
                    due.is("REACH of " + length[0] + " and of " + length[1] + ", " + beside[i] + " seconds",
                        startBeside(d, 1, 12000 + beside[i], turned, 1 - turned, length[1]), goes[i]);
                }
            }
        }
    }

    /** One that takes no time begins ahead of the end of another that it is within; two of them never do. */
    private static void reachOfNoTime() {
        int[] beside = {-1, 0, 1, 299, 300, 301};
        int[] goes = {1, 1, 0, 0, 1, 1};
        for (int i = 0; i < beside.length; i++) {
            TideDesk d = desk(0, 0);
            d.leg(0, 0, 0, NO_MARK);
            d.leg(0, 1, 300, NO_MARK);
            d.passage(ONCE, 0, 200);
            d.plan();
            due.is("none within 300, " + beside[i], startBeside(d, 1, 12000 + beside[i], 0, 1, 0), goes[i]);
            TideDesk e = desk(0, 0);
            e.leg(0, 0, 0, NO_MARK);
            e.leg(0, 1, 0, NO_MARK);
            e.passage(ONCE, 0, 200);
            e.plan();
            due.is("none beside none, " + beside[i], startBeside(e, 1, 12000 + beside[i], 0, 1, 0), 1);
        }
    }

    /** "in REACHES between the same two SHOALS (whichever way; perhaps one SHOAL twice)". */
    private static void reachesOfTheSameTwo() {
        int[][] pairs = {{0, 0}, {0, 1}, {0, 2}, {1, 0}, {1, 1}, {1, 2}, {2, 0}, {2, 1}, {2, 2}};
        for (int[] one : pairs) {
            for (int[] other : pairs) {
                TideDesk d = desk(0, 0, 0);
                d.leg(0, one[0], 0, NO_MARK);
                d.leg(0, one[1], 300, NO_MARK);
                d.passage(ONCE, 0, 200);
                d.plan();
                boolean same = one[0] == other[0] && one[1] == other[1] || one[0] == other[1] && one[1] == other[0];
                due.is("REACHES", startBeside(d, 1, 12000, other[0], other[1], 300), same ? 0 : 1);
            }
        }
    }

    /** In a REACH one is in no LOCK, and in a LOCK in no REACH; one LEG has no REACH. */
    private static void reachesAndLocksApart() {
        TideDesk d = desk(0, 60);
        d.leg(0, 0, 0, NO_MARK);
        d.leg(0, 1, 300, NO_MARK);
        d.leg(1, 0, 0, NO_MARK);
        d.leg(2, 1, 0, NO_MARK);
        d.passage(ONCE, 0, 10);
        d.passage(ONCE, 1, 10);
        d.passage(ONCE, 1, 12);
        d.passage(ONCE, 2, 14);
        d.passage(ONCE, 2, 15);
        d.passage(ONCE, 2, 16);
        due.is("plan", d.plan(), 5);
        starts(d, "apart", 10, 10, 12, 14, NONE, 16);
    }

    /** The third REACH of the one is the first, the second, the third of another. */
    private static void reachOfLaterLegs() {
        for (int ahead = 0; ahead < 3; ahead++) {
            TideDesk d = desk(0, 0, 0, 0);
            for (int i = 0; i < 4; i++) d.leg(0, i, 60 * i, NO_MARK);
            for (int i = 0; i < ahead; i++) d.leg(1, 0, 60 * i, NO_MARK);
            d.leg(1, 3, 60 * ahead, NO_MARK);
            d.leg(1, 2, 60 * ahead + 60, NO_MARK);
            d.passage(ONCE, 0, 100);
            for (int minute = 101; minute <= 103; minute++) d.passage(ONCE, 1, minute - ahead);
            due.is("plan", d.plan(), 3);
            starts(d, "behind " + ahead, 100, 101 - ahead, NONE, 103 - ahead);
        }
    }

    /** Those that WAIT, and those PLANNED without a start, are nowhere. */
    private static void thoseWithoutAStart() {
        TideDesk d = desk(600);
        d.leg(0, 0, 0, NO_MARK);
        d.passage(ONCE, 0, 10);
        d.plan();
        d.clock(5);
        d.again(0);
        d.clock(6);
        d.passage(ONCE, 0, 10);
        d.plan();
        starts(d, "0 WAITED longer", 10, NONE);
        d.passage(ONCE, 0, 20);
        d.plan();
        starts(d, "1 has none", 10, NONE, 20);
        d.clock(7);
        d.again(0);
        d.clock(8);
        d.again(1);
        d.again(2);
        d.clock(9);
        due.is("0 first", d.plan(), 2);
        starts(d, "again", 10, NONE, 20);
        d.again(0);
        d.passage(ONCE, 0, 10);
        due.is("0 and 3 WAIT alike", d.plan(), 1);
        starts(d, "by numbers", 10, NONE, 20, NONE);
    }

    private static void ownFormerStart() {
        TideDesk d = desk(7200);
        d.leg(0, 0, 0, NO_MARK);
        d.passage(ONCE, 0, 10);
        for (int i = 0; i < 3; i++) {
            due.row("its own start is gone ahead of it", Due.row(1, 10, 1), d.plan(), d.planned(0, 1), d.again(0));
        }
    }

    /** "one that has a start comes as when it was PLANNED; nothing is asked of it again". */
    private static void asWhenItWasPlanned() {
        TideDesk d = desk(600);
        d.leg(0, 0, 0, NO_MARK);
        d.passage(PATIENT, 0, 10);
        d.plan();
        d.dredge(0, 0, -1000);
        d.mean(0, -2000);
        d.survey(0, 0);
        due.row("it would not hold any more", Due.row(0, 10), d.holds(PATIENT, 0, 10), d.planned(0, 1));
        d.clock(1);
        d.dredge(0, 0, 3000);
        d.mean(0, 2000);
        d.survey(0, 0);
        d.passage(ONCE, 0, 19);
        d.passage(ONCE, 0, 20);
        due.is("plan", d.plan(), 1);
        due.trace(d, 42, 41, 10, 23, 20, 30, 50, 42, 41, 10, 23, 20, 30, 50);
        starts(d, "beside it", 10, NONE, 20);
    }

    /** "the first minute .. that holds, and at which it is not together with one". */
    private static void firstMinuteThatFits() {
        TideDesk d = desk(60);
        d.leg(0, 0, 0, NO_MARK);
        for (int minute : new int[] {10, 11, 13}) d.passage(ONCE, 0, minute);
        for (int i = 0; i < 3; i++) d.passage(PATIENT, 0, 10);
        due.is("plan", d.plan(), 6);
        starts(d, "between them", 10, 11, 13, 12, 14, 15);
    }

    /** "how many of them have a start now": of those that were PLANNED by this call. */
    private static void howManyHaveAStart() {
        TideDesk d = desk(60);
        due.is("none WAIT", d.plan(), 0);
        d.leg(0, 0, 0, NO_MARK);
        d.passage(ONCE, 0, 1);
        due.row("one", Due.row(1, 0), d.plan(), d.plan());
        d.passage(ONCE, 0, 1);
        due.row("it has none", Due.row(0, 0), d.plan(), d.plan());
        d.passage(ONCE, 0, 2);
        d.passage(ONCE, 0, 2);
        due.row("one of two", Due.row(1, 0), d.plan(), d.plan());
        d.again(1);
        d.again(3);
        due.is("none of two", d.plan(), 0);
    }

    private static void plannedTells() {
        TideDesk d = desk();
        d.clock(70);
        due.is("names nothing", d.planned(0, 0), Due.BAD);
        d.passage(ONCE, 5, 0);
        due.row("it WAITS", Due.row(1, NONE, 70), d.planned(0, 0), d.planned(0, 1), d.planned(0, 2));
        d.clock(80);
        d.plan();
        due.row("it has a start", Due.row(0, 0, 70), d.planned(0, 0), d.planned(0, 1), d.planned(0, 2));
        due.row("BAD", Due.row(Due.BAD, Due.BAD, Due.BAD, Due.BAD), d.planned(0, -1), d.planned(0, 3), d.planned(1, 0), d.planned(-1, 0));
    }

    /** "WAITS again, from NOW on, without a start: 1. NO: it WAITS." */
    private static void againFromNowOn() {
        TideDesk d = desk();
        d.passage(ONCE, 5, 9);
        d.clock(50);
        due.row("it WAITS", Due.row(Due.NO, 1, NONE, 0), d.again(0), d.planned(0, 0), d.planned(0, 1), d.planned(0, 2));
        d.plan();
        d.clock(60);
        due.row("again", Due.row(1, 1, NONE, 60), d.again(0), d.planned(0, 0), d.planned(0, 1), d.planned(0, 2));
        d.clock(61);
        due.row("it WAITS", Due.row(Due.NO, 60), d.again(0), d.planned(0, 2));
        d.plan();
        due.row("PLANNED anew", Due.row(0, 9, 60), d.planned(0, 0), d.planned(0, 1), d.planned(0, 2));
    }

    /** "for each LEG, in order, with a LOCK: the SHOAL is HELD (HELD: it is already)". */
    private static void passHoldsLocks() {
        int[][] shoals = {{}, {0}, {1}, {1, 2}, {0, 0}, {1, 0, 2}, {1, 2, 3}, {1, 2, 3, 4}, {1, 1}, {1, 0, 1}, {1, 2, 1}, {1, 2, 3, 1},
            {1, 2, 3, 3}, {0, 1, 1}, {0, 0, 0, 0}};
        int[] most = {0, 0, 1, 2, 0, 2, 3, 4, 1, 1, 2, 3, 3, 1, 0};
        boolean[] held = {false, false, false, false, false, false, false, false, true, true, true, true, true, true, false};
        for (int i = 0; i < shoals.length; i++) {
            TideDesk d = desk(0, 1, 7200, 60, 60);
            for (int shoal : shoals[i]) d.leg(0, shoal, 0, NO_MARK);
            d.passage(PATIENT, 0, 0);
            for (int turn = 1; turn <= 2; turn++) {
                due.is("pass " + i, d.pass(0), held[i] ? Due.HELD : 1);
                due.row("held", Due.row(0, most[i], turn), d.held(0), d.held(1), d.tries());
                due.row("FINDINGS", Due.row(held[i] ? 8 : 0, held[i] ? turn : 0), d.finding(), d.count(8));
                if (held[i]) due.trace(d, 10, 20);
                else due.trace(d, 10, 20, 30, 41);
            }
        }
    }

    /** "a TRY is counted (not by BAD, FULL)"; "each SHOAL is free again behind that, whatever came". */
    private static void passTriesAndFrees() {
        TideDesk d = desk(60, 60);
        d.leg(0, 0, 0, NO_MARK);
        d.leg(0, 1, 0, NO_MARK);
        d.leg(1, 0, 0, NO_MARK);
        d.ship(TOW, 0, 100, 0, 0, 0);
        d.ship(PAIR, 0, 0, 0, NONE, PATIENT);
        d.passage(2, 0, 0);
        d.passage(3, 0, 0);
        d.passage(PATIENT, 1, 0);
        due.row("before", Due.row(0, 0, 0), d.tries(), d.held(0), d.held(1));
        due.row("BAD", Due.row(Due.BAD, Due.BAD, 0), d.pass(3), d.pass(-1), d.tries());
        due.row("ZERO with both HELD", Due.row(Due.ZERO, 1, 0, 2), d.pass(0), d.tries(), d.held(0), d.held(1));
        due.row("free again", Due.row(1, 2, 0, 1), d.pass(2), d.tries(), d.held(0), d.held(1));
        due.row("NULL with none HELD", Due.row(Due.NULL, 3, 0, 0), d.pass(1), d.tries(), d.held(0), d.held(1));
        due.trace(d, 12);
        due.row("BAD leaves it", Due.row(Due.BAD, 3, 0), d.pass(9), d.tries(), d.held(1));
        due.row("whatever came", Due.row(1, 4, 1), d.pass(2), d.tries(), d.held(1));
        due.row("it WAITS on", Due.row(1, NONE, 0), d.planned(2, 0), d.planned(2, 1), d.planned(2, 2));
        due.row("FINDINGS", Due.row(1, 2), d.finding(), d.count(8));
    }

    /** "h = 7; for each PASSAGE in order h = 31 h + its start (NONE: -1); an int". */
    private static void digests() {
        TideDesk d = desk();
        due.is("none", d.digest(), 7);
        d.passage(ONCE, 5, 0);
        due.is("it WAITS", d.digest(), 216);
        d.plan();
        due.is("a start at 0", d.digest(), 217);
        d.passage(ONCE, 5, 5);
        due.is("the second WAITS", d.digest(), 217 * 31 - 1);
        d.plan();
        due.is("the second at 5", d.digest(), 217 * 31 + 5);
        d.again(0);
        due.is("in order", d.digest(), 216 * 31 + 5);
        int h = 216 * 31 + 5;
        for (int p = 2; p < 40; p++) {
            d.passage(ONCE, 5, 43199);
            h = 31 * h - 1;
        }
        due.row("an int", Due.row(h, 0), d.digest(), d.count(8));
    }
}
