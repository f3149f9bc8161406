/** Promises 28 to 32. */
public final class ShipsTest {
    private static final Due due = new Due("ShipsTest");
    private static final int NEED = 0, KEEL = 1, PACE = 2, PATIENCE = 3, BY_DAY = 4;

    public static void main(String[] args) {
        ship();
        pairsOneInTheOther();
        shipsFull();
        asksOfDeeps();
        asksOfLights();
        asksOfTows();
        asksOfFerries();
        asksOfPairs();
        asksOfNothing();
        asked();
        trace();
        as();
        due.end();
    }

    private static void ship() {
        TideDesk d = new TideDesk();
        due.all("ship BAD", Due.BAD, d.ship(-1, 0, 0, 0, 0, 0), d.ship(5, 0, 0, 0, 0, 0), d.ship(0, -1, 0, 0, 0, 0),
            d.ship(0, 3001, 0, 0, 0, 0), d.ship(0, 0, -1, 0, 0, 0), d.ship(0, 0, 3001, 0, 0, 0),
            d.ship(0, 0, 0, -1001, 0, 0), d.ship(0, 0, 0, 1001, 0, 0));
        due.all("PARTS that were not told before", Due.BAD, d.ship(4, 0, 0, 0, 0, -1), d.ship(4, 0, 0, 0, -1, 0),
            d.ship(4, 0, 0, 0, -2, -1), d.ship(4, 0, 0, 0, -1, -2));
        due.row("ship", Due.row(0, 1, 2, 3, 4), d.ship(0, 3000, 3000, 1000, 99, -99), d.ship(1, 0, 0, -1000, Due.MAX, Due.MIN),
            d.ship(2, 0, 0, 0, 99, 99), d.ship(3, 0, 0, 0, 99, 99), d.ship(4, 0, 0, 0, -1, -1));
        due.row("PAIRS", Due.row(5, 6, Due.BAD), d.ship(4, 0, 0, 0, 0, 4), d.ship(4, 0, 0, 0, 0, 0), d.ship(4, 0, 0, 0, 7, 0));
        due.all("of PAIRS, too", Due.BAD, d.ship(4, -1, 0, 0, 0, 0), d.ship(4, 0, 3001, 0, 0, 0), d.ship(4, 0, 0, 1001, 0, 0));
        due.is("SHIPS", d.count(5), 7);
    }

    private static void pairsOneInTheOther() {
        TideDesk d = new TideDesk();
        d.ship(0, 0, 0, 0, 0, 0);
        due.row("4 one in the other", Due.row(1, 2, 3, 4), d.ship(4, 0, 0, 0, 0, 0), d.ship(4, 0, 0, 0, -1, 1),
            d.ship(4, 0, 0, 0, 2, 0), d.ship(4, 0, 0, 0, 1, 3));
        due.all("a 5th", Due.NO, d.ship(4, 0, 0, 0, 4, 0), d.ship(4, 0, 0, 0, 0, 4), d.ship(4, 0, 0, 0, -1, 4));
        due.is("BAD ahead of NO", d.ship(4, 0, 0, 0, 4, 5), Due.BAD);
        due.is("side by side", d.ship(4, 0, 0, 0, 3, 3), 5);
        TideDesk e = new TideDesk();
        due.row("SHIP 0 is one", Due.row(0, 1, 2, 3, Due.NO), e.ship(4, 0, 0, 0, -1, -1), e.ship(4, 0, 0, 0, 0, -1),
            e.ship(4, 0, 0, 0, -1, 1), e.ship(4, 0, 0, 0, 2, 0), e.ship(4, 0, 0, 0, 0, 3));
        due.is("of NOTHING", e.ask(0, NEED), Due.NULL);
        TideDesk g = new TideDesk();
        due.row("SHIP 0 is the second PART", Due.row(0, 1, 2, 3, Due.NO), g.ship(4, 0, 0, 0, -1, -1), g.ship(4, 0, 0, 0, -1, 0),
            g.ship(4, 0, 0, 0, 1, -1), g.ship(4, 0, 0, 0, -1, 2), g.ship(4, 0, 0, 0, 3, -1));
        TideDesk n = new TideDesk();
        due.row("NOTHING is none", Due.row(0, 1, 2, 3), n.ship(4, 0, 0, 0, -1, -1), n.ship(4, 0, 0, 0, 0, -1),
            n.ship(4, 0, 0, 0, 1, -1), n.ship(4, 0, 0, 0, -1, 2));
        while (d.count(5) < 40) d.ship(0, 0, 0, 0, 0, 0);
        due.is("NO ahead of FULL", d.ship(4, 0, 0, 0, 4, 0), Due.NO);
        due.is("FULL", d.ship(4, 0, 0, 0, 3, 0), Due.FULL);
    }

    private static void shipsFull() {
        TideDesk d = new TideDesk();
        for (int i = 0; i < 40; i++) due.is("ship", d.ship(0, 0, 0, i, 0, 0), i);
        due.is("a 41st", d.ship(0, 0, 0, 0, 0, 0), Due.FULL);
        due.is("BAD ahead of FULL", d.ship(9, 0, 0, 0, 0, 0), Due.BAD);
        d.as(39, 0);
        due.is("the last one", d.asked(), 39);
    }

    private static void ask(TideDesk d, int ship, int what, int told, int... bodies) {
        due.is("ask(" + ship + ", " + what + ")", d.ask(ship, what), 1);
        due.is("asked() of " + ship + ", " + what, d.asked(), told);
        due.trace(d, bodies);
    }

    private static void asksOfDeeps() {
        TideDesk d = new TideDesk();
        d.ship(0, 219, 500, 7, 0, 0);
        ask(d, 0, NEED, 219 + 100 + 21, 11, 10, 21);
        ask(d, 0, KEEL, 100, 21);
        ask(d, 0, PACE, 500, 30);
        ask(d, 0, PATIENCE, 60, 40);
        ask(d, 0, BY_DAY, 0, 50);
    }

    private static void asksOfLights() {
        TideDesk d = new TideDesk();
        d.ship(1, 219, 500, 7, 0, 0);
        ask(d, 0, NEED, 219 + 30, 10, 20);
        ask(d, 0, KEEL, 30, 20);
        ask(d, 0, PACE, 500, 30);
        ask(d, 0, PATIENCE, 30, 41);
        ask(d, 0, BY_DAY, 0, 50);
    }

    private static void asksOfTows() {
        TideDesk d = new TideDesk();
        d.ship(2, 219, 500, 7, 0, 0);
        d.ship(2, 219, 500, -3, 0, 0);
        d.ship(2, 219, 500, 0, 0, 0);
        ask(d, 0, NEED, 219 + 107 + 21, 11, 10, 22, 21);
        ask(d, 0, KEEL, 107, 22, 21);
        ask(d, 0, PACE, 71, 31, 30);
        ask(d, 0, PATIENCE, 60, 40);
        ask(d, 0, BY_DAY, 1, 51);
        ask(d, 1, KEEL, 97, 22, 21);
        ask(d, 1, PACE, -166, 31, 30);
        due.is("by nothing", d.ask(2, PACE), Due.ZERO);
        due.row("ZERO", Due.row(4, 1), d.finding(), d.count(8));
        due.is("asked() stays", d.asked(), -166);
        due.trace(d, 31, 30);
    }

    private static void asksOfFerries() {
        TideDesk d = new TideDesk();
        d.ship(3, 219, 500, 7, 0, 0);
        d.ship(3, 219, 500, -1000, 0, 0);
        ask(d, 0, NEED, 219 + 60, 10, 23, 20);
        ask(d, 0, KEEL, 60, 23, 20);
        ask(d, 0, PACE, 500, 30);
        ask(d, 0, PATIENCE, 23, 42, 41);
        ask(d, 0, BY_DAY, 0, 50);
        ask(d, 1, PATIENCE, 1030, 42, 41);
    }

    private static void asksOfPairs() {
        TideDesk d = new TideDesk();
        d.ship(0, 200, 500, 0, 0, 0);
        d.ship(3, 400, 300, 60, 0, 0);
        d.ship(2, 100, 900, 2, 0, 0);
        d.ship(4, 3000, 3000, 0, 0, 1);
        d.ship(4, 0, 0, 0, 2, 3);
        d.ship(4, 0, 0, 0, 3, 2);
        ask(d, 3, NEED, 460, 12, 11, 10, 21, 10, 23, 20);
        ask(d, 3, KEEL, 30, 20);
        ask(d, 3, PACE, 300, 32, 30, 30);
        ask(d, 3, PATIENCE, 15, 43, 40, 42, 41);
        ask(d, 3, BY_DAY, 0, 52, 50, 50);
        ask(d, 4, NEED, 460, 12, 11, 10, 22, 21, 12, 11, 10, 21, 10, 23, 20);
        ask(d, 4, PACE, 300, 32, 31, 30, 32, 30, 30);
        ask(d, 4, PATIENCE, (60 + 15) / 2, 43, 40, 43, 40, 42, 41);
        ask(d, 4, BY_DAY, 1, 52, 51);
        ask(d, 5, BY_DAY, 1, 52, 52, 50, 50, 51);
        d.ship(3, 0, 0, 95, 0, 0);
        d.ship(4, 0, 0, 0, 6, 0);
        ask(d, 7, PATIENCE, (-65 + 60) / 2, 43, 42, 41, 40);
        d.ship(4, 0, 0, 0, 1, 0);
        ask(d, 8, NEED, 460, 12, 10, 23, 20, 11, 10, 21);
    }

    private static void asksOfNothing() {
        TideDesk d = new TideDesk();
        d.ship(2, 0, 100, 0, 0, 0);
        d.ship(4, 5, 6, 7, -1, 0);
        d.ship(4, 5, 6, 7, 0, -1);
        for (int what : new int[] {NEED, PACE, PATIENCE, BY_DAY}) {
            due.is("the first is NOTHING", d.ask(1, what), Due.NULL);
            due.trace(d, what * 10 + (what == NEED || what == PACE || what == BY_DAY ? 12 : 13));
        }
        due.row("NULL", Due.row(1, 4), d.finding(), d.count(8));
        due.is("the second is NOTHING", d.ask(2, NEED), Due.NULL);
        due.trace(d, 12, 11, 10, 22, 21);
        due.is("ZERO comes first", d.ask(2, PACE), Due.ZERO);
        due.trace(d, 32, 31, 30);
        due.is("the second is NOTHING", d.ask(2, PATIENCE), Due.NULL);
        due.trace(d, 43, 40);
        ask(d, 2, BY_DAY, 1, 52, 51);
        ask(d, 1, KEEL, 30, 20);
        due.is("FINDINGS", d.count(8), 7);
    }

    private static void asked() {
        TideDesk d = new TideDesk();
        d.ship(1, 0, 321, 17, 0, 0);
        due.is("before", d.asked(), 0);
        d.ask(0, PACE);
        due.is("asked", d.asked(), 321);
        due.all("ask BAD", Due.BAD, d.ask(1, 0), d.ask(-1, 0), d.ask(0, -1), d.ask(0, 5));
        due.is("as before", d.asked(), 321);
        due.trace(d, 30);
        d.as(0, 1);
        due.is("by as()", d.asked(), 17);
        d.as(0, 0);
        due.is("not by a CAST", d.asked(), 17);
    }

    /** THE TRACE keeps the first 100. */
    private static void trace() {
        TideDesk d = new TideDesk();
        d.ship(2, 0, 100, 1, 0, 0);
        d.ship(4, 0, 0, 0, 0, 0);
        d.ship(4, 0, 0, 0, 1, 1);
        d.ship(4, 0, 0, 0, 2, 2);
        d.ship(4, 0, 0, 0, 3, 3);
        due.is("16 TOWS", d.ask(4, NEED), 1);
        int n = 0;
        while (d.trace(n) != Due.NONE) n++;
        due.is("15 + 16 * 4", n, 79);
        due.row("trace", Due.row(12, 12, 12, 12, 11), d.trace(0), d.trace(1), d.trace(2), d.trace(3), d.trace(4));
        d.windows(4, 0, 0, 2);
        due.row("the first 100", Due.row(32, 31, Due.NONE), d.trace(98), d.trace(99), d.trace(100));
        due.all("none such", Due.NONE, d.trace(-1), d.trace(Due.MAX), d.trace(Due.MIN));
        d.ask(0, 5);
        due.is("BAD leaves it", d.trace(99), 31);
        d.plan();
        due.is("empty ahead of plan()", d.trace(0), Due.NONE);
    }

    private static void as() {
        TideDesk d = new TideDesk();
        for (int kind = 0; kind < 5; kind++) d.ship(kind, 0, 0, 10 + kind, -1, -1);
        for (int ship = 0; ship < 5; ship++) {
            for (int kind = 0; kind < 5; kind++) {
                boolean is = ship == kind || ship == 2 && kind == 0 || ship == 3 && kind == 1;
                due.is("as(" + ship + ", " + kind + ")", d.as(ship, kind), is ? 1 : Due.CAST);
                if (is) due.is("its x", d.asked(), 10 + ship);
            }
        }
        due.row("CAST", Due.row(3, 18), d.finding(), d.count(8));
        due.is("NOTHING", d.as(-1, 2), Due.NULL);
        due.is("NULL", d.finding(), 1);
        due.all("as BAD", Due.BAD, d.as(5, 0), d.as(-2, 0), d.as(0, -1), d.as(0, 5), d.as(-1, 5));
        d.ask(1, PACE);
        d.as(1, 1);
        due.trace(d, 30);
    }
}
