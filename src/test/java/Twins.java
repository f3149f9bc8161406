import java.util.ArrayList;
import java.util.List;
import java.util.function.Consumer;
import java.util.function.Supplier;
import java.util.function.ToLongFunction;

/**
 * Two desks that were made by the same calls, one of which then has a call more that is refused. All that can be asked
 * of a desk is asked of both: they must not differ, but in what the document says that the call changes. It is asked in
 * parts, each of two new desks, as an object is used for 512 calls at most.
 */
final class Twins {
    private final Due due;
    private final Supplier<TideDesk> make;

    Twins(Due due, Supplier<TideDesk> make) {
        this.due = due;
        this.make = make;
    }

    /** What a refused call may change; as it stands: nothing. */
    static final class Change {
        int findings;
        int finding = -1;
        int tries;
        int heldMost = -1;
        int lacking = -1;
        int[] trace;

        Change finding(int what) {
            findings = 1;
            finding = what;
            return this;
        }

        Change trace(int... bodies) {
            trace = bodies;
            return this;
        }

        Change aTry(int most) {
            tries = 1;
            heldMost = most;
            return this;
        }

        Change lacking(int many) {
            lacking = many;
            return this;
        }
    }

    static Change nothing() {
        return new Change();
    }

    static Change found(int what) {
        return new Change().finding(what);
    }

    void refuse(String call, long answer, Change change, ToLongFunction<TideDesk> act) {
        List<Consumer<Probe>> parts = List.of(Twins::status, Twins::seas, Twins::gauges, Twins::ships, Twins::fleets,
            Twins::routes, Twins::plans, Twins::rooms);
        for (Consumer<Probe> part : parts) {
            Probe one = new Probe(make.get());
            Probe other = new Probe(make.get());
            due.is(call, act.applyAsLong(other.desk), answer);
            if (part == parts.get(0)) compareStatus(call, one.desk, other.desk, change);
            part.accept(one);
            part.accept(other);
            compare(call, one, other);
        }
    }

    private void compare(String call, Probe one, Probe other) {
        due.is(call + ": how much was asked", other.answers.size(), one.answers.size());
        for (int i = 0; i < one.answers.size(); i++) {
            due.is("behind " + call + ": " + one.calls.get(i), other.answers.get(i), one.answers.get(i));
        }
    }

    private void compareStatus(String call, TideDesk one, TideDesk other, Change change) {
        due.is("FINDINGS behind " + call, other.count(8), one.count(8) + change.findings);
        due.is("finding() behind " + call, other.finding(), change.finding < 0 ? one.finding() : change.finding);
        due.is("tries() behind " + call, other.tries(), one.tries() + change.tries);
        due.is("held(1) behind " + call, other.held(1), change.heldMost < 0 ? one.held(1) : change.heldMost);
        due.is("lacking() behind " + call, other.lacking(), change.lacking < 0 ? one.lacking() : change.lacking);
        if (change.trace != null) {
            due.trace(other, change.trace);
            return;
        }
        for (int i = 0; i <= 100; i++) due.is("trace(" + i + ") behind " + call, other.trace(i), one.trace(i));
    }

    /** The answers of one desk, each with the call that it was given to. */
    private static final class Probe {
        final TideDesk desk;
        final List<String> calls = new ArrayList<>();
        final List<Long> answers = new ArrayList<>();

        Probe(TideDesk desk) {
            this.desk = desk;
        }

        void note(String call, long answer) {
            calls.add(call);
            answers.add(answer);
        }
    }

    private static void status(Probe p) {
        TideDesk d = p.desk;
        for (int what = 0; what < 8; what++) p.note("count(" + what + ")", d.count(what));
        p.note("asked", d.asked());
        p.note("held(0)", d.held(0));
        p.note("digest", d.digest());
        for (int what = 0; what < 2; what++) p.note("wrong(" + what + ")", d.wrong(what));
        for (int i = 0; i < 20; i++) {
            p.note("window first " + i, d.window(i, false));
            p.note("window last " + i, d.window(i, true));
        }
        for (int i : new int[] {0, 1, 2, 3, 4, 5, 6, 7, 8, 39}) {
            for (int what = 0; what < 3; what++) p.note("planned(" + i + ", " + what + ")", d.planned(i, what));
        }
    }

    /** SURVEYS, WATERS, STREAMS, and at last the DRAFTS, which are surveyed to be seen. */
    private static void seas(Probe p) {
        TideDesk d = p.desk;
        int now = d.count(0);
        for (int station : new int[] {0, 1, 2, 11}) {
            for (int t : new int[] {0, 86400, 29 * 86400}) {
                for (int k : new int[] {0, now}) {
                    p.note("height " + station + " " + t + " " + k, d.height(station, t, k));
                    p.note("force " + station + " " + t + " " + k, d.force(station, t, k));
                }
            }
            for (int i = 0; i < 8; i++) {
                p.note("found " + station + " " + i, d.found(station, i, 0));
                p.note("is HIGH " + station + " " + i, d.found(station, i, 1));
                p.note("range " + station + " " + i, d.range(station, i));
            }
            p.note("spring", d.spring(station, true));
            p.note("neap", d.spring(station, false));
        }
        for (int hour = -7; hour <= 7; hour++) p.note("stream " + hour, d.stream(0, Full.HIGH + hour * 3600));
        for (int station = 0; station < 12; station++) {
            p.note("wave " + station, d.wave(station, 1, 1, 1));
            p.note("survey " + station, d.survey(station, 28));
            p.note("height of the DRAFT " + station, d.height(station, 28 * 86400 + 17, now));
            p.note("mean behind it " + station, d.mean(station, 3));
        }
    }

    private static void gauges(Probe p) {
        TideDesk d = p.desk;
        int now = d.count(0);
        int[] some = {0, 1, 2, 3, 4, 9};
        for (int g : some) {
            for (int i : new int[] {0, 1, 2, 3, 4, 119, 120}) {
                p.note("at " + g + " " + i, d.at(g, i));
                p.note("air " + g + " " + i, d.air(g, i));
            }
            for (int t : new int[] {0, 1200, 5000, now}) p.note("surge " + g + " " + t, d.surge(g, t));
            p.note("lacking " + g, d.lacking());
        }
        for (int s : new int[] {0, 1, 2, 3, 4, 15}) {
            for (int t : new int[] {0, 90000, 29 * 86400}) p.note("depth " + s + " " + t, d.depth(s, t, now));
            p.note("depth then " + s, d.depth(s, 90000, 500));
            p.note("water " + s, d.water(s, 1300));
        }
        for (int what = 0; what < 3; what++) p.note("rule " + what, d.rule(what, 1));
        for (int g : some) {
            p.note("was out " + g, d.out(g, false));
            p.note("at, in again " + g, d.at(g, 0));
            p.note("reading " + g, d.reading(g, 5, 6));
            p.note("at, behind it " + g, d.at(g, 1));
        }
    }

    private static void ships(Probe p) {
        TideDesk d = p.desk;
        int[] some = {0, 1, 2, 3, 4, 5, 6, 7, 8, 9, 39};
        for (int ship : some) {
            for (int what = 0; what < 5; what++) {
                p.note("ask " + ship + " " + what, d.ask(ship, what));
                p.note("asked " + ship + " " + what, d.asked());
            }
            for (int kind = 0; kind < 5; kind++) {
                p.note("as " + ship + " " + kind, d.as(ship, kind));
                p.note("asked as " + ship + " " + kind, d.asked());
            }
        }
    }

    private static void fleets(Probe p) {
        TideDesk d = p.desk;
        for (int f = 0; f < 4; f++) {
            for (int i = -1; i <= 8; i++) p.note("member " + f + " " + i, d.member(f, i));
            p.note("shared " + f, d.shared(f, 1000));
            p.note("asked " + f, d.asked());
            for (int ship = 0; ship < 5; ship++) p.note("join " + f + " " + ship, d.join(f, 0, ship));
        }
    }

    private static void routes(Probe p) {
        TideDesk d = p.desk;
        for (int route = 0; route < 6; route++) {
            for (int i = 0; i < 5; i++) p.note("comes " + route + " " + i, d.comes(1, route, i, 0));
            for (int minute : new int[] {0, 133, 359, 360, 1079, 1080, 43199}) {
                p.note("holds " + route + " " + minute, d.holds(1, route, minute));
                p.note("holds by day " + route + " " + minute, d.holds(2, route, minute));
            }
            p.note("clear " + route, d.clear(route));
        }
    }

    /** Who is PLANNED in which order, and the LOCKS. */
    private static void plans(Probe p) {
        TideDesk d = p.desk;
        int many = d.count(6);
        p.note("plan", d.plan());
        for (int i = 0; i < many; i++) p.note("start " + i, d.planned(i, 1));
        for (int i = 0; i < many; i++) p.note("again " + i, d.again(i));
        p.note("plan again", d.plan());
        for (int i = 0; i < many; i++) p.note("start again " + i, d.planned(i, 1));
        for (int i = 0; i < many; i++) {
            p.note("pass " + i, d.pass(i));
            p.note("held " + i, d.held(1));
        }
    }

    /** How much room is left of each. */
    private static void rooms(Probe p) {
        TideDesk d = p.desk;
        for (int i = 0; i < 61; i++) p.note("dredge", d.dredge(0, 0, i));
        for (int i = 0; i < 61; i++) p.note("survey", d.survey(3, 0));
        for (int i = 0; i < 17; i++) p.note("shoal", d.shoal(0, 0, 0));
        for (int i = 0; i < 11; i++) p.note("gauge", d.gauge(0, 0, 60));
        for (int i = 0; i < 41; i++) p.note("ship", d.ship(0, 0, 0, 0, 0, 0));
        for (int i = 0; i < 41; i++) p.note("passage", d.passage(0, 0, 0));
        for (int route = 0; route < 6; route++) p.note("leg", d.leg(route, 0, 50000, 0));
    }
}
