/** Promises 53 to 55, and what is FULL behind 3000 FINDINGS. */
public final class StatusTest {
    private static final Due due = new Due("StatusTest");

    public static void main(String[] args) {
        desksApart();
        count();
        finding();
        digest();
        fullBehindFindings();
        fullCalls();
        fullLeavesTheRest();
        due.end();
    }

    /** What is done on one object is not seen on another. */
    private static void desksApart() {
        TideDesk other = new TideDesk();
        TideDesk full = Full.make();
        TideDesk later = new TideDesk();
        due.is("full", full.count(5), 9);
        for (TideDesk d : new TideDesk[] {other, later}) {
            for (int what = 0; what <= 8; what++) due.is("count(" + what + ")", d.count(what), 0);
            due.row("rules, MEAN, TRIES", Due.row(5, 12, 10, 0, 0), d.rule(0, 5), d.rule(1, 12), d.rule(2, 10), d.mean(0, 0), d.tries());
            due.row("asked, TRACE, digest", Due.row(0, Due.NONE, 7, 0), d.asked(), d.trace(0), d.digest(), d.finding());
            due.row("FLEETS, WATERS", Due.row(Due.NULL, Due.NONE, 1), d.member(0, 0), d.found(0, 0, 0), d.wave(0, 0, 0, 0));
        }
    }

    private static void count() {
        TideDesk d = new TideDesk();
        d.clock(5);
        d.survey(0, 0);
        d.survey(0, 0);
        d.gauge(0, 0, 60);
        d.shoal(0, 0, 0);
        d.shoal(0, 0, 0);
        d.shoal(0, 0, 0);
        for (int i = 0; i < 4; i++) d.dredge(0, 0, 0);
        for (int i = 0; i < 6; i++) d.ship(0, 0, 100, 0, 0, 0);
        for (int i = 0; i < 7; i++) d.passage(0, 0, 0);
        d.windows(0, 0, 0, 9);
        for (int i = 0; i < 8; i++) d.at(0, 0);
        due.row("count", Due.row(5, 2, 1, 3, 4, 6, 7, 1, 8), d.count(0), d.count(1), d.count(2), d.count(3), d.count(4), d.count(5),
            d.count(6), d.count(7), d.count(8));
        due.all("count BAD", Due.BAD, d.count(-1), d.count(9), d.count(Due.MIN), d.count(Due.MAX));
    }

    private static void finding() {
        TideDesk d = new TideDesk();
        due.is("none", d.finding(), 0);
        d.height(0, 0, 0);
        due.is("NULL", d.finding(), 1);
        d.gauge(0, 0, 60);
        d.at(0, 0);
        due.is("INDEX", d.finding(), 2);
        d.ship(2, 0, 0, 0, 0, 0);
        d.as(0, 1);
        due.is("CAST", d.finding(), 3);
        d.ask(0, 2);
        due.is("ZERO", d.finding(), 4);
        d.fleet(0, 0, -1);
        due.is("SIZE", d.finding(), 5);
        d.fleet(0, 1, 1);
        due.is("a call without one leaves it", d.finding(), 5);
        d.join(0, 0, 0);
        due.is("STORE", d.finding(), 6);
        d.surge(0, 0);
        due.is("LACK", d.finding(), 7);
        d.shoal(0, 0, 1);
        d.leg(0, 0, 0, 0);
        d.leg(0, 0, 0, 0);
        d.passage(0, 0, 0);
        d.pass(0);
        due.is("HELD", d.finding(), 8);
        d.pass(1);
        due.row("BAD leaves it", Due.row(8, 8), d.finding(), d.count(8));
        d.plan();
        due.row("by a minute of plan()", Due.row(4, 9), d.finding(), d.count(8));
        d.ship(4, 0, 0, 0, 0, -1);
        d.windows(1, 0, 0, 2);
        due.row("by a minute of windows()", Due.row(1, 11), d.finding(), d.count(8));
    }

    private static void digest() {
        TideDesk d = new TideDesk();
        d.ship(0, 0, 100, 0, 0, 0);
        d.passage(0, 0, 43199);
        due.is("it WAITS", d.digest(), 7 * 31 - 1);
        d.plan();
        due.is("a start", d.digest(), 7 * 31 + 43199);
        int h = 7 * 31 + 43199;
        for (int i = 0; i < 30; i++) {
            d.passage(0, 0, i);
            h = 31 * h - 1;
            due.is("an int", d.digest(), h);
        }
    }

    /** 2999 FINDINGS, of which the last call that may goes beyond 3000. */
    private static void fullBehindFindings() {
        TideDesk d = new TideDesk();
        d.shoal(0, 0, 0);
        d.leg(0, 0, 0, Due.NO_FLOAT);
        d.ship(0, 0, 100, 0, 0, 0);
        for (int i = 0; i < 24; i++) d.windows(0, 0, 0, 120);
        d.windows(0, 0, 0, 119);
        due.is("FINDINGS", d.count(8), 2999);
        due.is("may come yet", d.holds(0, 5, 0), 1);
        due.is("goes beyond", d.windows(0, 0, 0, 120), 0);
        due.row("wrong", Due.row(120, 1, 3119), d.wrong(0), d.wrong(1), d.count(8));
        due.is("FULL", d.windows(0, 0, 0, 1), Due.FULL);
        due.row("as before", Due.row(120, 3119), d.wrong(0), d.count(8));
        TideDesk e = new TideDesk();
        e.ship(2, 0, 100, 0, 0, 0);
        for (int i = 0; i < 3; i++) e.passage(0, 0, 0);
        for (int i = 0; i < 24; i++) e.windows(0, 0, 0, 120);
        e.windows(0, 0, 0, 119);
        due.is("of plan(), FULL ahead of all alone", e.plan(), 0);
        due.row("all are PLANNED", Due.row(3002, 0, 0, 0), e.count(8), e.planned(0, 0), e.planned(1, 0), e.planned(2, 0));
        due.is("FULL", e.plan(), Due.FULL);
    }

    private static TideDesk usedUp() {
        TideDesk d = new TideDesk();
        d.mean(0, 100);
        d.wave(0, 1000, 8192, 0);
        d.survey(0, 0);
        d.waters(0, 0, 30);
        d.gauge(0, 0, 60);
        d.reading(0, 100, 0);
        d.shoal(0, 500, 0);
        d.leg(0, 0, 0, Due.NO_FLOAT);
        d.ship(0, 0, 100, 5, 0, 0);
        d.fleet(0, 5, 2);
        d.join(0, 0, 0);
        d.passage(0, 0, 0);
        d.ask(0, 2);
        d.surge(0, 0);
        Due.useUpFindings(d);
        return d;
    }

    private static void fullCalls() {
        TideDesk d = usedUp();
        due.is("FINDINGS", d.count(8), 3000);
        due.all("REALS", Due.NO_REAL, d.height(0, 0, 0), d.surge(0, 0), d.depth(0, 0, 0), d.water(0, 0), d.range(0, 0));
        due.all("FLOATS", Due.NO_FLOAT, d.air(0, 0), d.stream(0, 8000));
        due.is("at", d.at(0, 0), -100000);
        d.clock(60);
        due.all("FULL", Due.FULL, d.force(0, 0, 0), d.reading(0, 0, 0), d.compare(0, 0, 0), d.waters(0, 0, 30), d.ask(0, 0),
            d.as(0, 0), d.as(-1, 0), d.as(0, 1), d.fleet(0, 0, 1), d.fleet(0, 0, -1), d.join(0, 0, 0), d.join(3, 0, 0),
            d.member(0, 0), d.move(0, 0, 0, 0, 1), d.shared(0, 1), d.comes(0, 0, 0, 0), d.holds(0, 0, 0),
            d.windows(0, 0, 0, 1), d.plan(), d.pass(0));
        due.all("behind BAD", Due.BAD, d.force(12, 0, 0), d.reading(1, 0, 0), d.compare(1, 0, 0), d.waters(0, 0, 2), d.ask(9, 0),
            d.as(0, 9), d.fleet(9, 0, 1), d.join(9, 0, 0), d.member(9, 0), d.move(9, 0, 0, 0, 1), d.shared(9, 1),
            d.comes(9, 0, 0, 0), d.holds(9, 0, 0), d.windows(9, 0, 0, 1), d.pass(9));
        due.is("behind NO", d.reading(0, 0, 0), Due.FULL);
        d.gauge(0, 61, 60);
        due.is("behind NO", d.reading(1, 0, 0), Due.NO);
        due.is("no FINDING more", d.count(8), 3000);
    }

    private static void fullLeavesTheRest() {
        TideDesk d = usedUp();
        int lacking = d.lacking();
        d.ask(0, 0);
        d.pass(0);
        d.surge(0, 0);
        due.row("no TRY, asked(), lacking(), held", Due.row(0, 100, lacking, 0), d.tries(), d.asked(), d.lacking(), d.held(1));
        due.row("THE TRACE is that of windows()", Due.row(10, 20, 30, 50), d.trace(0), d.trace(1), d.trace(2), d.trace(3));
        due.row("it WAITS on", Due.row(1, Due.NONE), d.planned(0, 0), d.planned(0, 1));
        due.row("these go on", Due.row(1, 0, 1, 1, 4), d.clock(1), d.mean(0, 1), d.sun(1, 2), d.tide(0, 0, 0), d.found(0, 3, 1) + 3);
        due.row("these go on", Due.row(1, 2, 2, 1), d.wave(0, 1, 1, 1), d.survey(0, 0), d.ship(0, 0, 0, 0, 0, 0), d.gauge(0, 0, 60));
        due.row("these go on", Due.row(2, 1, 2, 1), d.shoal(0, 0, 0), d.dredge(0, 0, 0), d.leg(0, 0, 0, 0), d.passage(0, 0, 0));
        due.row("these go on", Due.row(0, 1, 5, 2), d.spring(0, true), d.out(0, true), d.rule(0, 1), d.clear(0));
    }
}
