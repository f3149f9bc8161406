/** The edges that section 5 and promises 28 to 37 name, each with what lies on both sides of it. */
public final class ShipsEdgesTest {
    private static final Due due = new Due("ShipsEdgesTest");
    private static final int NEED = 0, KEEL = 1, PACE = 2, PATIENCE = 3, BY_DAY = 4;
    private static final int DEEP = 0, LIGHT = 1, TOW = 2, FERRY = 3, PAIR = 4, NONE = Due.NONE;

    public static void main(String[] args) {
        fortyShips();
        pairsFourDeep();
        pairsOfTheFirstPart();
        needs();
        keels();
        pacesAreCut();
        patienceIsCut();
        pairsOfLikeOnes();
        secondIsAskedIfTheFirstIsNot();
        nothingWhenItIsAsked();
        traceOfHundred();
        traceIsEmptyAhead();
        traceStaysByRefusals();
        askedStays();
        asOfKinds();
        fleetsOfPlaces();
        fleetsAtFirst();
        fleetsApart();
        fleetMadeAnew();
        storeByKinds();
        moveTillTheFirstThatDoesNotGo();
        moveAsTheyWere();
        costs();
        due.end();
    }

    private static void ask(TideDesk d, int ship, int what, int told) {
        due.row("ask(" + ship + ", " + what + ")", Due.row(1, told), d.ask(ship, what), d.asked());
    }

    private static int told(int kind, int draught, int pace, int x, int what) {
        TideDesk d = new TideDesk();
        d.ship(kind, draught, pace, x, NONE, NONE);
        due.is("ask", d.ask(0, what), 1);
        return d.asked();
    }

    private static void fortyShips() {
        TideDesk d = new TideDesk();
        for (int i = 0; i < 39; i++) due.is("ship", d.ship(LIGHT, 0, 0, i, 0, 0), i);
        due.row("the 40th", Due.row(39, 40), d.ship(PAIR, 0, 0, 39, 38, NONE), d.count(5));
        due.row("a 41st", Due.row(Due.FULL, Due.FULL, 40), d.ship(LIGHT, 0, 0, 0, 0, 0), d.ship(PAIR, 0, 0, 0, 39, 39), d.count(5));
        due.row("names", Due.row(1, 39, Due.BAD, 39), d.as(39, PAIR), d.asked(), d.as(40, PAIR), d.asked());
    }

    /** "(PAIRS, too: 4 one in the other at most)": by the second PART. */
    private static void pairsFourDeep() {
        TideDesk d = new TideDesk();
        d.ship(LIGHT, 7, 0, 0, 0, 0);
        for (int deep = 1; deep <= 4; deep++) due.is("PAIR " + deep, d.ship(PAIR, 0, 0, 0, 0, deep - 1), deep);
        due.row("a 5th", Due.row(Due.NO, 5), d.ship(PAIR, 0, 0, 0, 0, 4), d.count(5));
        due.row("beside the 3rd", Due.row(5, Due.NO), d.ship(PAIR, 0, 0, 0, 3, 3), d.ship(PAIR, 0, 0, 0, 5, 0));
        ask(d, 4, NEED, 37);
        due.trace(d, 12, 10, 20, 12, 10, 20, 12, 10, 20, 12, 10, 20, 10, 20);
        due.is("a SHIP that is no PAIR has no PARTS", d.ship(LIGHT, 0, 0, 0, 4, 4), 6);
    }

    private static void pairsOfTheFirstPart() {
        TideDesk d = new TideDesk();
        d.ship(PAIR, 0, 0, 0, NONE, NONE);
        for (int deep = 2; deep <= 4; deep++) due.is("PAIR " + deep, d.ship(PAIR, 0, 0, 0, deep - 2, NONE), deep - 1);
        due.row("a 5th", Due.row(Due.NO, 4), d.ship(PAIR, 0, 0, 0, 3, NONE), d.count(5));
        due.row("the greater of both", Due.row(Due.NO, Due.NO, 4), d.ship(PAIR, 0, 0, 0, 3, 0), d.ship(PAIR, 0, 0, 0, 0, 3),
            d.ship(PAIR, 0, 0, 0, 2, 2));
    }

    /** "11 of DEEPS: what 10 gives, and DRAUGHT / 10", cut. */
    private static void needs() {
        for (int draught : new int[] {0, 9, 10, 11, 19, 20, 2999, 3000}) {
            due.is("DEEP", told(DEEP, draught, 0, 0, NEED), draught + 100 + draught / 10);
            due.is("TOW", told(TOW, draught, 0, -1000, NEED), draught + 100 - 1000 + draught / 10);
            due.is("LIGHT", told(LIGHT, draught, 0, 1000, NEED), draught + 30);
            due.is("FERRY", told(FERRY, draught, 0, 1000, NEED), draught + 60);
        }
        due.row("9, 10, 19, 20", Due.row(109, 111, 120, 122), told(DEEP, 9, 0, 0, NEED), told(DEEP, 10, 0, 0, NEED),
            told(DEEP, 19, 0, 0, NEED), told(DEEP, 20, 0, 0, NEED));
    }

    private static void keels() {
        for (int x : new int[] {-1000, -1, 0, 1, 1000}) {
            due.row("x " + x, Due.row(100, 30, 100 + x, 60, 30), told(DEEP, 0, 0, x, KEEL), told(LIGHT, 0, 0, x, KEEL),
                told(TOW, 0, 0, x, KEEL), told(FERRY, 0, 0, x, KEEL), told(PAIR, 0, 0, x, KEEL));
        }
    }

    /** "31 of TOWS: what 30 gives by x (ZERO)", cut. */
    private static void pacesAreCut() {
        due.row("by x", Due.row(3, -3, 7, -7, 0, 0, 3, -3), told(TOW, 0, 7, 2, PACE), told(TOW, 0, 7, -2, PACE), told(TOW, 0, 7, 1, PACE),
            told(TOW, 0, 7, -1, PACE), told(TOW, 0, 7, 8, PACE), told(TOW, 0, 7, -8, PACE), told(TOW, 0, 3000, 1000, PACE),
            told(TOW, 0, 3000, -1000, PACE));
        due.row("nothing by x", Due.row(0, 0), told(TOW, 0, 0, 5, PACE), told(TOW, 0, 0, -5, PACE));
        TideDesk d = new TideDesk();
        d.ship(TOW, 0, 0, 0, 0, 0);
        d.ship(DEEP, 0, 5, 0, 0, 0);
        due.row("by nothing", Due.row(Due.ZERO, 4, 1), d.ask(0, PACE), d.finding(), d.count(8));
        for (int what : new int[] {NEED, KEEL, PATIENCE, BY_DAY}) due.is("asked for else", d.ask(0, what), 1);
        ask(d, 1, PACE, 5);
    }

    /** "43 of PAIRS: both PARTS', likewise, together, by 2", cut; "42 of FERRIES: what 41 gives less x". */
    private static void patienceIsCut() {
        due.row("FERRIES", Due.row(1030, 31, 30, 29, 0, -1, -970), told(FERRY, 0, 0, -1000, PATIENCE), told(FERRY, 0, 0, -1, PATIENCE),
            told(FERRY, 0, 0, 0, PATIENCE), told(FERRY, 0, 0, 1, PATIENCE), told(FERRY, 0, 0, 30, PATIENCE),
            told(FERRY, 0, 0, 31, PATIENCE), told(FERRY, 0, 0, 1000, PATIENCE));
        int[][] xs = {{29, 30}, {29, 29}, {30, 31}, {31, 31}, {31, 32}, {28, 29}, {-1000, -999}, {1000, 999}};
        int[] due2 = {0, 1, 0, -1, -1, 1, 1029, -969};
        for (int i = 0; i < xs.length; i++) {
            TideDesk d = new TideDesk();
            d.ship(FERRY, 0, 0, xs[i][0], 0, 0);
            d.ship(FERRY, 0, 0, xs[i][1], 0, 0);
            d.ship(PAIR, 0, 0, 0, 0, 1);
            ask(d, 2, PATIENCE, due2[i]);
        }
    }

    /** "the greater NEED", "the lesser PACE": of like ones, too, and of one SHIP twice. */
    private static void pairsOfLikeOnes() {
        TideDesk d = new TideDesk();
        d.ship(LIGHT, 100, 50, 0, 0, 0);
        d.ship(LIGHT, 101, 49, 0, 0, 0);
        int[][] parts = {{0, 0}, {0, 1}, {1, 0}, {1, 1}};
        int[] needs = {130, 131, 131, 131};
        int[] paces = {50, 49, 49, 49};
        for (int i = 0; i < 4; i++) {
            int pair = d.ship(PAIR, 3000, 3000, 0, parts[i][0], parts[i][1]);
            ask(d, pair, NEED, needs[i]);
            ask(d, pair, PACE, paces[i]);
            ask(d, pair, PATIENCE, 30);
        }
        d.ship(TOW, 0, 50, -2, 0, 0);
        d.ship(PAIR, 0, 0, 0, 0, 6);
        ask(d, 7, PACE, -25);
    }

    /** "52 of PAIRS: whether a PART is (the second is asked, if the first is not)". */
    private static void secondIsAskedIfTheFirstIsNot() {
        TideDesk d = new TideDesk();
        d.ship(TOW, 0, 0, 0, 0, 0);
        d.ship(LIGHT, 0, 0, 0, 0, 0);
        d.ship(PAIR, 0, 0, 0, 0, 1);
        d.ship(PAIR, 0, 0, 0, 1, 0);
        d.ship(PAIR, 0, 0, 0, 1, 1);
        d.ship(PAIR, 0, 0, 0, 0, NONE);
        d.ship(PAIR, 0, 0, 0, 1, NONE);
        ask(d, 2, BY_DAY, 1);
        due.trace(d, 52, 51);
        ask(d, 3, BY_DAY, 1);
        due.trace(d, 52, 50, 51);
        ask(d, 4, BY_DAY, 0);
        due.trace(d, 52, 50, 50);
        ask(d, 5, BY_DAY, 1);
        due.trace(d, 52, 51);
        due.is("NOTHING is asked", d.ask(6, BY_DAY), Due.NULL);
        due.trace(d, 52, 50);
        due.is("as before", d.asked(), 1);
    }

    /** "NULL, when a PART is asked that is NOTHING; so below". */
    private static void nothingWhenItIsAsked() {
        TideDesk d = new TideDesk();
        d.ship(LIGHT, 0, 0, 0, 0, 0);
        d.ship(PAIR, 0, 0, 0, NONE, 0);
        d.ship(PAIR, 0, 0, 0, 0, NONE);
        d.ship(PAIR, 0, 0, 0, 0, 2);
        int[] whats = {NEED, PACE, PATIENCE, BY_DAY};
        int[][] firsts = {{12}, {32}, {43}, {52}};
        int[][] seconds = {{12, 10, 20}, {32, 30}, {43, 41}, {52, 50}};
        int[][] below = {{12, 10, 20, 12, 10, 20}, {32, 30, 32, 30}, {43, 41, 43, 41}, {52, 50, 52, 50}};
        for (int i = 0; i < 4; i++) {
            due.is("the first", d.ask(1, whats[i]), Due.NULL);
            due.trace(d, firsts[i]);
            due.is("the second", d.ask(2, whats[i]), Due.NULL);
            due.trace(d, seconds[i]);
            due.is("of a PART", d.ask(3, whats[i]), Due.NULL);
            due.trace(d, below[i]);
        }
        due.row("NULL", Due.row(1, 12), d.finding(), d.count(8));
        for (int pair = 1; pair <= 3; pair++) ask(d, pair, KEEL, 30);
        due.is("of the KEEL no PART is asked", d.count(8), 12);
    }

    /** "THE TRACE .. (the first 100 ..)": a PAIR of LIGHTS leaves 11 for a minute, a LIGHT 4. */
    private static void traceOfHundred() {
        TideDesk d = new TideDesk();
        d.ship(LIGHT, 0, 1, 0, 0, 0);
        d.ship(PAIR, 0, 0, 0, 0, 0);
        d.windows(1, 0, 0, 9);
        due.row("99", Due.row(50, Due.NONE, Due.NONE), d.trace(98), d.trace(99), d.trace(100));
        d.windows(0, 0, 0, 25);
        due.row("100", Due.row(30, 50, Due.NONE), d.trace(98), d.trace(99), d.trace(100));
        d.shoal(0, 0, 0);
        d.survey(0, 0);
        d.leg(1, 0, 0, Due.NO_FLOAT);
        d.passage(0, 1, 0);
        d.plan();
        due.row("101 and more: 41 first", Due.row(41, 10, 20, 30, Due.NONE), d.trace(0), d.trace(97), d.trace(98), d.trace(99),
            d.trace(100));
        d.windows(1, 0, 0, 120);
        due.row("far more", Due.row(12, 12, Due.NONE, Due.NONE), d.trace(0), d.trace(99), d.trace(100), d.trace(101));
        d.ask(0, PACE);
        due.trace(d, 30);
    }

    /** "empty ahead of each ask(), comes(), holds(), windows(), plan(), pass() that is not BAD, FULL". */
    private static void traceIsEmptyAhead() {
        TideDesk d = new TideDesk();
        d.survey(0, 0);
        d.shoal(0, 1000, 0);
        d.leg(0, 0, 0, Due.NO_FLOAT);
        d.ship(LIGHT, 0, 100, 0, 0, 0);
        d.passage(0, 0, 0);
        d.ask(0, BY_DAY);
        d.ask(0, NEED);
        due.trace(d, 10, 20);
        d.comes(0, 0, 0, 0);
        due.trace(d, 30);
        d.holds(0, 0, 0);
        due.trace(d, 10, 20, 30, 50);
        d.windows(0, 0, 0, 2);
        due.trace(d, 10, 20, 30, 50, 10, 20, 30, 50);
        d.plan();
        due.trace(d, 41, 10, 20, 30, 50);
        d.pass(0);
        due.trace(d, 10, 20, 30, 41);
        d.plan();
        due.trace(d);
    }

    private static void traceStaysByRefusals() {
        TideDesk d = Full.make();
        d.ask(FERRY, KEEL);
        d.ask(9, 0);
        d.ask(0, 5);
        d.comes(0, 0, 9, 0);
        d.holds(0, 0, -1);
        d.windows(0, 0, 0, 0);
        d.pass(8);
        d.as(0, 0);
        d.shared(0, 1);
        due.trace(d, 23, 20);
    }

    /** "What the latest ask() that was 1 told; 0 before." as() and shared() tell by it, too. */
    private static void askedStays() {
        TideDesk d = Full.make();
        due.is("0 before", new TideDesk().asked(), 0);
        due.row("ask", Due.row(1, 100), d.ask(0, KEEL), d.asked());
        due.row("BAD, ZERO, NULL", Due.row(Due.BAD, Due.ZERO, Due.NULL, 100), d.ask(0, 5), d.ask(Full.ZERO_TOW, PACE),
            d.ask(Full.HALF_PAIR, NEED), d.asked());
        due.row("comes, holds", Due.row(0, 1, 100), d.comes(1, 0, 0, 0), d.holds(1, Full.EMPTY, 0), d.asked());
        due.row("as", Due.row(1, 2), d.as(1, LIGHT), d.asked());
        due.row("as BAD, CAST, NULL", Due.row(Due.BAD, Due.CAST, Due.NULL, 2), d.as(1, 5), d.as(1, FERRY), d.as(NONE, LIGHT), d.asked());
        due.row("shared", Due.row(1, 50), d.shared(0, 101), d.asked());
        due.row("shared BAD, NULL, ZERO", Due.row(Due.BAD, Due.NULL, Due.ZERO, 50), d.shared(0, -1), d.shared(3, 1), d.shared(2, 1),
            d.asked());
    }

    /** A TOW is a DEEP, a FERRY a LIGHT; not the other way, and a PAIR is a PAIR alone. */
    private static void asOfKinds() {
        int[][] is = {{1, 0, 0, 0, 0}, {0, 1, 0, 0, 0}, {1, 0, 1, 0, 0}, {0, 1, 0, 1, 0}, {0, 0, 0, 0, 1}};
        TideDesk d = new TideDesk();
        for (int kind = 0; kind < 5; kind++) d.ship(kind, 0, 0, kind - 2, NONE, NONE);
        for (int ship = 0; ship < 5; ship++) {
            for (int kind = 0; kind < 5; kind++) {
                int findings = d.count(8);
                boolean goes = is[ship][kind] == 1;
                due.is("as", d.as(ship, kind), goes ? 1 : Due.CAST);
                if (goes) due.is("x", d.asked(), ship - 2);
                due.is("FINDINGS", d.count(8), goes ? findings : findings + 1);
            }
        }
    }

    /** "rows of n (0 .. 8) places"; "SIZE (fewer than none)". */
    private static void fleetsOfPlaces() {
        TideDesk d = new TideDesk();
        for (int n = 0; n <= 8; n++) {
            due.is("fleet", d.fleet(1, 5, n), 1);
            for (int i = 0; i < n; i++) due.is("NOTHING in each", d.member(1, i), NONE);
            due.row("no more", Due.row(Due.INDEX, Due.INDEX), d.member(1, n), d.member(1, -1));
        }
        due.row("-1, 9", Due.row(Due.SIZE, 5, Due.BAD), d.fleet(1, 5, -1), d.finding(), d.fleet(1, 5, 9));
        due.row("as it was", Due.row(NONE, Due.INDEX), d.member(1, 7), d.member(1, 8));
        due.row("the others are NOTHING", Due.row(Due.NULL, Due.NULL, Due.NULL), d.member(0, 0), d.member(2, 0), d.member(3, 0));
        due.row("SIZE makes none", Due.row(Due.SIZE, Due.NULL), d.fleet(0, 5, -1), d.member(0, 0));
    }

    /** "FLEETS 0 .. 3 are NOTHING (at first)"; one of no places is not NOTHING. */
    private static void fleetsAtFirst() {
        for (int f = 0; f < 4; f++) {
            TideDesk d = new TideDesk();
            int other = (f + 1) % 4;
            due.row("NOTHING", Due.row(Due.NULL, Due.NULL, Due.NULL, Due.NULL), d.member(f, 0), d.join(f, 0, NONE), d.shared(f, 0),
                d.move(f, 0, f, 0, 0));
            d.fleet(f, 5, 0);
            due.row("no places", Due.row(Due.INDEX, Due.INDEX, Due.ZERO, 0), d.member(f, 0), d.join(f, 0, NONE), d.shared(f, 0),
                d.move(f, 0, f, 0, 0));
            due.row("beside NOTHING", Due.row(Due.NULL, Due.NULL), d.move(f, 0, other, 0, 0), d.move(other, 0, f, 0, 0));
            d.fleet(other, 5, 0);
            due.row("beside one of none", Due.row(0, 0, Due.INDEX), d.move(f, 0, other, 0, 0), d.move(other, 0, f, 0, 0),
                d.move(f, 0, other, 0, 1));
        }
    }

    /** Eight places each, of their own. */
    private static void fleetsApart() {
        TideDesk d = new TideDesk();
        for (int i = 0; i < 32; i++) d.ship(LIGHT, 0, 0, 0, 0, 0);
        for (int f = 0; f < 4; f++) d.fleet(f, 5, 8);
        for (int i = 0; i < 32; i++) d.join(i / 8, i % 8, i);
        for (int i = 0; i < 32; i++) due.is("member", d.member(i / 8, i % 8), i);
        d.fleet(1, 5, 8);
        due.row("beside the one made anew", Due.row(7, NONE, NONE, 16), d.member(0, 7), d.member(1, 0), d.member(1, 7), d.member(2, 0));
        d.join(2, 0, NONE);
        due.row("shared among 8, none, 7", Due.row(1, 7, Due.ZERO, 1, 8), d.shared(0, 56), d.asked(), d.shared(1, 56), d.shared(2, 56),
            d.asked());
    }

    private static void fleetMadeAnew() {
        TideDesk d = new TideDesk();
        d.ship(LIGHT, 0, 0, 0, 0, 0);
        d.ship(DEEP, 0, 0, 0, 0, 0);
        d.fleet(0, 5, 8);
        for (int i = 0; i < 8; i++) d.join(0, i, i % 2);
        d.fleet(0, LIGHT, 2);
        due.row("NOTHING in each", Due.row(NONE, NONE, Due.INDEX), d.member(0, 0), d.member(0, 1), d.member(0, 2));
        due.row("of the new SORT", Due.row(1, Due.STORE), d.join(0, 0, 0), d.join(0, 1, 1));
        d.fleet(0, 5, 8);
        for (int i = 0; i < 8; i++) due.is("NOTHING again", d.member(0, i), NONE);
        due.is("ZERO", d.shared(0, 5), Due.ZERO);
    }

    private static void storeByKinds() {
        int[][] goes = {{1, 0, 1, 0, 0}, {0, 1, 0, 1, 0}, {0, 0, 1, 0, 0}, {0, 0, 0, 1, 0}, {0, 0, 0, 0, 1}, {1, 1, 1, 1, 1}};
        TideDesk d = new TideDesk();
        for (int kind = 0; kind < 5; kind++) d.ship(kind, 0, 0, 0, NONE, NONE);
        for (int sort = 0; sort < 6; sort++) {
            d.fleet(0, sort, 1);
            for (int ship = 0; ship < 5; ship++) {
                d.join(0, 0, NONE);
                boolean does = goes[sort][ship] == 1;
                due.row("SORT " + sort + ", SHIP " + ship, Due.row(does ? 1 : Due.STORE, does ? ship : NONE), d.join(0, 0, ship),
                    d.member(0, 0));
            }
            due.row("NOTHING goes", Due.row(1, NONE), d.join(0, 0, NONE), d.member(0, 0));
        }
    }

    private static void members(TideDesk d, int f, int... ships) {
        for (int i = 0; i < ships.length; i++) due.is("member(" + f + ", " + i + ")", d.member(f, i), ships[i]);
    }

    /** "STORE: the first that does not go: those ahead of it have come." */
    private static void moveTillTheFirstThatDoesNotGo() {
        for (int wrong = 0; wrong <= 3; wrong++) {
            TideDesk d = new TideDesk();
            d.ship(LIGHT, 0, 0, 0, 0, 0);
            d.ship(FERRY, 0, 0, 0, 0, 0);
            d.ship(DEEP, 0, 0, 0, 0, 0);
            d.fleet(0, 5, 4);
            d.fleet(1, LIGHT, 4);
            for (int i = 0; i < 3; i++) d.join(0, i, i == wrong ? 2 : 1);
            for (int i = 0; i < 4; i++) d.join(1, i, 0);
            due.is("move, " + wrong + " does not go", d.move(0, 0, 1, 1, 3), wrong < 3 ? Due.STORE : 3);
            due.row("FINDINGS", Due.row(wrong < 3 ? 6 : 0, wrong < 3 ? 1 : 0), d.finding(), d.count(8));
            members(d, 1, 0, wrong > 0 ? 1 : 0, wrong > 1 ? 1 : 0, wrong > 2 ? 1 : 0);
            members(d, 0, wrong == 0 ? 2 : 1, wrong == 1 ? 2 : 1, wrong == 2 ? 2 : 1, NONE);
            due.row("none of that SORT is moved", Due.row(0, wrong < 3 ? 1 : 0), d.move(0, 0, 1, 0, 0), d.count(8));
        }
    }

    /** "as they were": within one FLEET, whichever way they overlap. */
    private static void moveAsTheyWere() {
        for (int i = 0; i <= 8; i++) {
            for (int j = 0; j <= 8; j++) {
                int most = 8 - Math.max(i, j);
                TideDesk d = new TideDesk();
                for (int s = 0; s < 8; s++) d.ship(s % 5 == 4 ? 0 : s % 5, 0, 0, 0, 0, 0);
                d.fleet(2, 5, 8);
                for (int s = 0; s < 8; s++) d.join(2, s, s == 3 ? NONE : s);
                due.row("move " + i + " " + j, Due.row(Due.INDEX, most), d.move(2, i, 2, j, most + 1), d.move(2, i, 2, j, most));
                for (int s = 0; s < 8; s++) {
                    int from = s >= j && s < j + most ? s - j + i : s;
                    due.is("member " + s, d.member(2, s), from == 3 ? NONE : from);
                }
            }
        }
    }

    /** "A cost (0 .. 1000000) by how many SHIPS stand in a FLEET", cut; ZERO. */
    private static void costs() {
        TideDesk d = new TideDesk();
        d.ship(LIGHT, 0, 0, 0, 0, 0);
        d.fleet(0, 5, 8);
        due.row("none", Due.row(Due.ZERO, Due.ZERO), d.shared(0, 0), d.shared(0, 1000000));
        for (int many = 1; many <= 8; many++) {
            d.join(0, 8 - many, 0);
            due.row("among " + many, Due.row(1, 1000000 / many), d.shared(0, 1000000), d.asked());
            due.row("cut, among " + many, Due.row(1, 0, 1, 1), d.shared(0, many - 1), d.asked(), d.shared(0, many), d.asked());
        }
        for (int i = 0; i < 7; i++) d.join(0, i, NONE);
        due.row("one is left", Due.row(1, 9), d.shared(0, 9), d.asked());
        d.join(0, 7, NONE);
        due.is("none is left", d.shared(0, 9), Due.ZERO);
    }
}
