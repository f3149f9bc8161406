/** Promises 33 to 37. */
public final class FleetsTest {
    private static final Due due = new Due("FleetsTest");

    public static void main(String[] args) {
        fleet();
        join();
        member();
        move();
        moveOfNoPlaces();
        moveWithin();
        moveRefused();
        shared();
        due.end();
    }

    /** SHIPS 0 to 4, one of each KIND. */
    private static TideDesk withShips() {
        TideDesk d = new TideDesk();
        for (int kind = 0; kind < 5; kind++) d.ship(kind, 0, 0, 0, -1, -1);
        return d;
    }

    private static void members(TideDesk d, int f, int... ships) {
        for (int i = 0; i < ships.length; i++) due.is("member(" + f + ", " + i + ")", d.member(f, i), ships[i]);
    }

    private static void fleet() {
        TideDesk d = withShips();
        due.all("fleet BAD", Due.BAD, d.fleet(-1, 0, 1), d.fleet(4, 0, 1), d.fleet(0, -1, 1), d.fleet(0, 6, 1), d.fleet(0, 0, 9),
            d.fleet(0, 0, Due.MAX), d.fleet(0, 6, -1));
        due.is("NOTHING yet", d.member(0, 0), Due.NULL);
        due.all("fleet", 1, d.fleet(0, 5, 0), d.fleet(3, 0, 8), d.fleet(1, 5, 2));
        due.is("no place", d.member(0, 0), Due.INDEX);
        members(d, 3, -1, -1, -1, -1, -1, -1, -1, -1);
        due.is("no more places", d.member(3, 8), Due.INDEX);
        d.join(1, 0, 2);
        due.all("fewer than none", Due.SIZE, d.fleet(1, 5, -1), d.fleet(1, 5, Due.MIN));
        due.is("SIZE", d.finding(), 5);
        members(d, 1, 2, -1);
        due.is("made anew", d.fleet(1, 5, 3), 1);
        members(d, 1, -1, -1, -1);
    }

    private static void join() {
        TideDesk d = withShips();
        due.is("NOTHING", d.join(0, 0, 0), Due.NULL);
        for (int sort = 0; sort <= 5; sort++) {
            d.fleet(0, sort, 5);
            for (int ship = 0; ship < 5; ship++) {
                boolean is = sort == 5 || ship == sort || ship == 2 && sort == 0 || ship == 3 && sort == 1;
                due.is("SORT " + sort + ", SHIP " + ship, d.join(0, ship, ship), is ? 1 : Due.STORE);
                due.is("member", d.member(0, ship), is ? ship : Due.NONE);
            }
            due.is("NOTHING goes always", d.join(0, sort % 5, -1), 1);
            due.is("and stands there", d.member(0, sort % 5), Due.NONE);
        }
        due.all("INDEX ahead of STORE", Due.INDEX, d.join(0, 5, 0), d.join(0, -1, 0), d.join(0, Due.MIN, 0), d.join(0, Due.MAX, 0));
        d.fleet(1, 1, 1);
        due.is("STORE", d.join(1, 0, 0), Due.STORE);
        due.is("STORE", d.finding(), 6);
        due.is("INDEX ahead of STORE", d.join(1, 1, 0), Due.INDEX);
        due.all("join BAD", Due.BAD, d.join(-1, 0, 0), d.join(4, 0, 0), d.join(0, 0, 5), d.join(0, 0, -2), d.join(2, 0, 5));
    }

    private static void member() {
        TideDesk d = withShips();
        due.is("NOTHING", d.member(2, 0), Due.NULL);
        due.is("NULL ahead of INDEX", d.member(2, -1), Due.NULL);
        d.fleet(2, 5, 2);
        d.join(2, 1, 4);
        members(d, 2, -1, 4);
        due.all("INDEX", Due.INDEX, d.member(2, 2), d.member(2, -1), d.member(2, Due.MAX), d.member(2, Due.MIN));
        due.all("member BAD", Due.BAD, d.member(-1, 0), d.member(4, 0));
    }

    private static void move() {
        TideDesk d = withShips();
        d.fleet(0, 5, 5);
        d.fleet(1, 0, 4);
        for (int i = 0; i < 5; i++) d.join(0, i, new int[] {0, 2, -1, 1, 0}[i]);
        d.join(1, 3, 2);
        due.is("to another", d.move(0, 0, 1, 1, 3), 3);
        members(d, 1, -1, 0, 2, -1);
        members(d, 0, 0, 2, -1, 1, 0);
        due.is("a LIGHT among DEEPS", d.move(0, 1, 1, 0, 4), Due.STORE);
        due.is("STORE", d.finding(), 6);
        members(d, 1, 2, -1, 2, -1);
        due.is("back", d.move(1, 0, 0, 4, 1), 1);
        members(d, 0, 0, 2, -1, 1, 2);
        due.row("none", Due.row(0, 0), d.move(0, 5, 1, 4, 0), d.move(0, 0, 1, 0, 0));
    }

    private static void moveOfNoPlaces() {
        TideDesk d = withShips();
        d.fleet(0, 0, 0);
        d.fleet(1, 1, 0);
        due.row("no places are no NOTHING", Due.row(0, Due.INDEX, 0), d.move(0, 0, 1, 0, 0), d.move(0, 0, 1, 0, 1), d.move(1, 0, 1, 0, 0));
    }

    private static void moveWithin() {
        TideDesk d = withShips();
        d.fleet(0, 5, 5);
        for (int i = 0; i < 5; i++) d.join(0, i, i);
        due.is("onward", d.move(0, 0, 0, 1, 4), 4);
        members(d, 0, 0, 0, 1, 2, 3);
        due.is("back", d.move(0, 1, 0, 0, 4), 4);
        members(d, 0, 0, 1, 2, 3, 3);
        due.is("all", d.move(0, 0, 0, 0, 5), 5);
        members(d, 0, 0, 1, 2, 3, 3);
    }

    private static void moveRefused() {
        TideDesk d = withShips();
        d.fleet(0, 5, 5);
        due.all("NULL", Due.NULL, d.move(0, 0, 1, 0, 0), d.move(1, 0, 0, 0, 0), d.move(0, -1, 1, 0, 0), d.move(2, -1, 3, 0, -1));
        d.fleet(1, 5, 3);
        due.all("INDEX", Due.INDEX, d.move(0, -1, 1, 0, 1), d.move(0, 0, 1, -1, 1), d.move(0, 0, 1, 0, -1), d.move(0, 0, 1, 0, 4),
            d.move(0, 5, 1, 0, 1), d.move(0, 4, 1, 0, 2), d.move(0, 0, 1, 3, 1), d.move(0, 6, 1, 0, 0), d.move(0, 0, 1, 4, 0),
            d.move(0, Due.MAX, 1, 0, 1), d.move(0, 0, 1, Due.MAX, 3), d.move(0, 1, 1, 1, Due.MAX), d.move(0, 0, 1, 0, Due.MIN),
            d.move(0, Due.MIN, 1, 0, Due.MIN));
        due.is("INDEX", d.finding(), 2);
        due.all("move BAD", Due.BAD, d.move(-1, 0, 0, 0, 0), d.move(4, 0, 0, 0, 0), d.move(0, 0, -1, 0, 0), d.move(0, 0, 4, 0, 0),
            d.move(2, 0, 4, 0, 0));
    }

    private static void shared() {
        TideDesk d = withShips();
        due.is("NOTHING", d.shared(0, 10), Due.NULL);
        d.fleet(0, 5, 4);
        due.is("none stands there", d.shared(0, 10), Due.ZERO);
        due.is("ZERO", d.finding(), 4);
        d.join(0, 0, 1);
        d.join(0, 2, 1);
        d.join(0, 3, 2);
        due.is("shared", d.shared(0, 1000000), 1);
        due.is("among three", d.asked(), 333333);
        due.is("shared", d.shared(0, 0), 1);
        due.is("nothing", d.asked(), 0);
        d.join(0, 2, -1);
        due.is("shared", d.shared(0, 9), 1);
        due.is("among two", d.asked(), 4);
        due.all("shared BAD", Due.BAD, d.shared(-1, 0), d.shared(4, 0), d.shared(0, -1), d.shared(0, 1000001), d.shared(1, -1));
        d.fleet(1, 5, 0);
        due.is("no places", d.shared(1, 5), Due.ZERO);
        due.is("as before", d.asked(), 4);
        d.fleet(3, 5, 8);
        for (int i = 0; i < 8; i++) d.join(3, i, i % 2);
        due.is("shared", d.shared(3, 100), 1);
        due.is("among eight", d.asked(), 12);
    }
}
