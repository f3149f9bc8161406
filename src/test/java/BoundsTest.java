import java.util.function.Supplier;

/** Each number of each call: its least and its greatest value are taken, and those next to them, and far off, are not. */
public final class BoundsTest {
    private static final Due due = new Due("BoundsTest");
    private static final int BAD = Due.BAD, NO_FLOAT = Due.NO_FLOAT, LAST = Due.LAST_MOMENT, NOW = Full.NOW;
    private static final long NO_REAL = Due.NO_REAL;

    public static void main(String[] args) {
        clockAndWaves();
        surveysKnown();
        gauges();
        surges();
        shoals();
        waters();
        streams();
        ships();
        pairs();
        fleets();
        places();
        routes();
        windows();
        passages();
        status();
        due.end();
    }

    private interface Call {
        long of(TideDesk d, int v);
    }

    private static final class Span {
        private final String name;
        private final long outside;
        private final Call call;
        private final Supplier<TideDesk> make;

        Span(String name, long outside, Call call, Supplier<TideDesk> make) {
            this.name = name;
            this.outside = outside;
            this.call = call;
            this.make = make;
        }

        private long at(int v) {
            return call.of(make.get(), v);
        }

        /** The answers of the least and of the greatest one are as told. */
        void goes(int least, long first, int greatest, long last) {
            due.is(name + " " + least, at(least), first);
            due.is(name + " " + greatest, at(greatest), last);
            for (int v : new int[] {least - 1, greatest + 1, Due.MIN, Due.MAX}) due.is(name + " " + v, at(v), outside);
        }

        void goes(int least, int greatest, long both) {
            goes(least, both, greatest, both);
        }
    }

    private static Span bad(String name, Call call) {
        return new Span(name, BAD, call, Full::make);
    }

    private static Span none(String name, long outside, Call call) {
        return new Span(name, outside, call, Full::make);
    }

    private static Span onNew(String name, long outside, Call call) {
        return new Span(name, outside, call, TideDesk::new);
    }

    private static void clockAndWaves() {
        onNew("clock", BAD, (d, v) -> d.clock(v)).goes(0, LAST, 1);
        bad("clock behind NOW", (d, v) -> d.clock(v)).goes(NOW, LAST, 1);
        onNew("mean of", -100000, (d, v) -> d.mean(v, 1)).goes(0, 11, 0);
        onNew("mean", -100000, (d, v) -> d.mean(0, v)).goes(-2000, 2000, 0);
        onNew("MEAN as it was", -100000, (d, v) -> d.mean(0, v) == 0 ? d.mean(0, 0) : -100000)
            .goes(-2000, -2000, 2000, 2000);
        onNew("wave of", BAD, (d, v) -> d.wave(v, 1, 1, 1)).goes(0, 11, 1);
        onNew("SIZE", BAD, (d, v) -> d.wave(0, v, 1, 1)).goes(0, 9999, 1);
        onNew("SPEED", BAD, (d, v) -> d.wave(0, 1, v, 1)).goes(0, 60000, 1);
        onNew("PHASE", BAD, (d, v) -> d.wave(0, 1, 1, v)).goes(0, 65535, 1);
        onNew("survey of", BAD, (d, v) -> d.survey(v, 0)).goes(0, 11, 1);
        onNew("survey from", BAD, (d, v) -> d.survey(0, v)).goes(0, 29, 1);
    }

    private static void surveysKnown() {
        Supplier<TideDesk> all = () -> {
            TideDesk d = new TideDesk();
            for (int s = 0; s < 12; s++) Due.level(d, s, 100 + s);
            d.clock(77);
            return d;
        };
        new Span("height of", NO_REAL, (d, v) -> d.height(v, 0, 0), all).goes(0, Due.real(1.0), 11, Due.real(1.11));
        new Span("height at", NO_REAL, (d, v) -> d.height(0, v, 0), all).goes(0, LAST, Due.real(1.0));
        new Span("height as KNOWN at", NO_REAL, (d, v) -> d.height(0, 0, v), all).goes(0, 77, Due.real(1.0));
        new Span("force of", BAD, (d, v) -> d.force(v, 0, 0), all).goes(0, 11, 0);
        new Span("force at", BAD, (d, v) -> d.force(0, v, 0), all).goes(0, LAST, 0);
        new Span("force as KNOWN at", BAD, (d, v) -> d.force(0, 0, v), all).goes(0, 77, 0);
    }

    private static void gauges() {
        onNew("gauge of", BAD, (d, v) -> d.gauge(v, 0, 60)).goes(0, 11, 0);
        onNew("gauge from", BAD, (d, v) -> d.gauge(0, v, 60)).goes(0, LAST, 0);
        onNew("STEP", BAD, (d, v) -> d.gauge(0, 0, v)).goes(60, 7200, 0);
        bad("reading of", (d, v) -> d.reading(v, 0, 0)).goes(0, 4, 3, 2);
        bad("SHORT", (d, v) -> d.reading(0, v, 0)).goes(-32768, 32767, 4);
        bad("out of", (d, v) -> d.out(v, true)).goes(0, 3, 1);
        none("at of", -100000, (d, v) -> d.at(v, 0)).goes(0, 410, 3, 5);
        none("at", -100002, (d, v) -> d.at(0, v)).goes(0, 410, 2, 390);
        none("air of", NO_FLOAT, (d, v) -> d.air(v, 0)).goes(0, 410, 3, 6);
        none("air", NO_FLOAT, (d, v) -> d.air(0, v)).goes(0, 410, 2, 390);
        bad("compare of", (d, v) -> d.compare(v, 0, 0)).goes(0, 3, 26);
        none("compare the first", Due.INDEX, (d, v) -> d.compare(0, v, 0)).goes(0, 26, 2, 35);
        none("compare the second", Due.INDEX, (d, v) -> d.compare(0, 0, v)).goes(0, 26, 2, 44);
    }

    private static void surges() {
        onNew("TAKE", BAD, (d, v) -> d.rule(0, v)).goes(1, 9, 5);
        onNew("FADE", BAD, (d, v) -> d.rule(1, v)).goes(1, 48, 12);
        onNew("STEPS", BAD, (d, v) -> d.rule(2, v)).goes(1, 60, 10);
        onNew("TAKE as it was", BAD, (d, v) -> d.rule(0, v) == BAD ? BAD : d.rule(0, 5)).goes(1, 1, 9, 9);
        onNew("FADE as it was", BAD, (d, v) -> d.rule(1, v) == BAD ? BAD : d.rule(1, 5)).goes(1, 1, 48, 48);
        onNew("STEPS as they were", BAD, (d, v) -> d.rule(2, v) == BAD ? BAD : d.rule(2, 5)).goes(1, 1, 60, 60);
        onNew("rule", BAD, (d, v) -> d.rule(v, 1)).goes(0, 5, 2, 10);
        Supplier<TideDesk> level = () -> {
            TideDesk d = new TideDesk();
            Due.level(d, 0, 0);
            for (int g = 0; g < 10; g++) {
                d.gauge(0, 0, 60);
                d.reading(g, 100 + g, 0);
            }
            return d;
        };
        new Span("surge of", NO_REAL, (d, v) -> d.surge(v, 0), level).goes(0, Due.real(1.0), 9, Due.real(1.09));
        new Span("surge at", NO_REAL, (d, v) -> d.surge(0, v), level).goes(0, Due.real(1.0), LAST, 0);
    }

    private static void shoals() {
        onNew("shoal at", BAD, (d, v) -> d.shoal(v, 0, 0)).goes(0, 11, 0);
        onNew("BED", BAD, (d, v) -> d.shoal(0, v, 0)).goes(-1000, 5000, 0);
        onNew("LOCK", BAD, (d, v) -> d.shoal(0, 0, v)).goes(0, 7200, 0);
        bad("dredge", (d, v) -> d.dredge(v, 0, 0)).goes(0, 3, 3);
        bad("dredge from", (d, v) -> d.dredge(0, v, 0)).goes(0, 29, 3);
        bad("BED of a DREDGING", (d, v) -> d.dredge(0, 0, v)).goes(-1000, 5000, 3);
        Supplier<TideDesk> two = () -> {
            TideDesk d = new TideDesk();
            Due.level(d, 0, 0);
            d.shoal(0, -1000, 0);
            d.shoal(0, 5000, 0);
            d.clock(77);
            return d;
        };
        long up = Due.real(-10.0);
        long down = Due.real(50.0);
        new Span("depth of", NO_REAL, (d, v) -> d.depth(v, 0, 0), two).goes(0, up, 1, down);
        new Span("depth at", NO_REAL, (d, v) -> d.depth(0, v, 0), two).goes(0, LAST, up);
        new Span("depth as KNOWN at", NO_REAL, (d, v) -> d.depth(0, 0, v), two).goes(0, 77, up);
        new Span("water of", NO_REAL, (d, v) -> d.water(v, 0), two).goes(0, up, 1, down);
        new Span("water at", NO_REAL, (d, v) -> d.water(0, v), two).goes(0, LAST, up);
        new Span("dredged", NO_REAL, (d, v) -> d.dredge(1, 0, v) == BAD ? NO_REAL : d.depth(1, 0, 77), two)
            .goes(-1000, up, 5000, down);
    }

    private static void waters() {
        Supplier<TideDesk> all = () -> {
            TideDesk d = new TideDesk();
            for (int s = 0; s < 12; s++) Due.level(d, s, 100 + s);
            return d;
        };
        new Span("waters of", BAD, (d, v) -> d.waters(v, 0, 3), all).goes(0, 11, 0);
        new Span("n", BAD, (d, v) -> d.waters(0, 0, v), all).goes(3, 200, 0);
        for (int steps : new int[] {1, 10, 60}) {
            for (int n : new int[] {3, 200}) {
                int from = LAST - (n - 1) * 60 * steps;
                new Span("from, of " + n + " by " + steps, BAD, (d, v) -> {
                    d.rule(2, steps);
                    return d.waters(0, v, n);
                }, all).goes(0, from, 0);
            }
        }
        none("found of", BAD, (d, v) -> d.found(v, 0, 0)).goes(0, 32000, 11, Due.NONE);
        none("HIGH of", BAD, (d, v) -> d.found(v, 1, 1)).goes(0, 1, 11, Due.NONE);
        none("found", Due.NONE, (d, v) -> d.found(0, v, 1)).goes(0, 0, 4, 0);
        none("found what", BAD, (d, v) -> d.found(0, 0, v)).goes(0, 32000, 1, 0);
        Supplier<TideDesk> waving = () -> {
            TideDesk d = new TideDesk();
            for (int s = 0; s < 12; s++) {
                d.wave(s, 1000, 8192, 0);
                d.survey(s, 0);
                d.waters(s, 0, 30);
            }
            return d;
        };
        new Span("range of", NO_REAL, (d, v) -> d.range(v, 0), waving).goes(0, 11, Due.real(2.0));
        new Span("range", NO_REAL, (d, v) -> d.range(0, v), waving).goes(0, 2, Due.real(2.0));
        new Span("spring of", BAD, (d, v) -> d.spring(v, true), waving).goes(0, 11, 0);
        new Span("neap of", BAD, (d, v) -> d.spring(v, false), waving).goes(0, 11, 0);
        new Span("stream of", NO_FLOAT, (d, v) -> d.stream(v, 8000), waving).goes(0, 11, 0);
        // The first HIGH is that of 8000, the last one that of 16000: the hours end 1800 seconds behind the sixth.
        new Span("stream at", NO_FLOAT, (d, v) -> d.stream(0, v), waving).goes(0, 16000 + 6 * 3600 + 1799, 0);
    }

    private static void streams() {
        onNew("tide of", BAD, (d, v) -> d.tide(v, 0, 0)).goes(0, 11, 1);
        onNew("hour", BAD, (d, v) -> d.tide(0, v, 0)).goes(-6, 6, 1);
        int twenty = Due.bits(20.0f);
        int lessTwenty = Due.bits(-20.0f);
        TideDesk d = new TideDesk();
        due.row("a FLOAT", Due.row(1, 1, BAD), d.tide(0, 0, twenty - 1), d.tide(0, 0, twenty), d.tide(0, 0, twenty + 1));
        due.row("below 0", Due.row(1, 1, BAD), d.tide(0, 0, lessTwenty - 1), d.tide(0, 0, lessTwenty), d.tide(0, 0, lessTwenty + 1));
        due.row("about 0", Due.row(1, 1, 1, 1), d.tide(0, 0, 0), d.tide(0, 0, 1), d.tide(0, 0, 1 << 31), d.tide(0, 0, (1 << 31) + 1));
        due.all("endless, and no number", BAD, d.tide(0, 0, 0x7f800000), d.tide(0, 0, 0xff800000), d.tide(0, 0, 0x7f800001),
            d.tide(0, 0, 0xff800001), d.tide(0, 0, NO_FLOAT), d.tide(0, 0, Due.MAX), d.tide(0, 0, -1));
    }

    private static void ships() {
        onNew("KIND", BAD, (d, v) -> d.ship(v, 0, 0, 0, -1, -1)).goes(0, 4, 0);
        for (int kind = 0; kind < 5; kind++) {
            int of = kind;
            onNew("DRAUGHT of " + kind, BAD, (d, v) -> d.ship(of, v, 0, 0, -1, -1)).goes(0, 3000, 0);
            onNew("PACE of " + kind, BAD, (d, v) -> d.ship(of, 0, v, 0, -1, -1)).goes(0, 3000, 0);
            onNew("x of " + kind, BAD, (d, v) -> d.ship(of, 0, 0, v, -1, -1)).goes(-1000, 1000, 0);
            onNew("x as told of " + kind, BAD, (d, v) -> d.ship(of, 0, 0, v, -1, -1) == 0 ? d.as(0, of) + d.asked() : BAD)
                .goes(-1000, -999, 1000, 1001);
        }
        onNew("PACE as told", BAD, (d, v) -> d.ship(0, 0, v, 0, 0, 0) == 0 ? d.ask(0, 2) + d.asked() : BAD).goes(0, 1, 3000, 3001);
        onNew("NEED as told", BAD, (d, v) -> d.ship(1, v, 0, 0, 0, 0) == 0 ? d.ask(0, 0) + d.asked() : BAD).goes(0, 31, 3000, 3031);
        for (int what = 0; what < 5; what++) {
            int of = what;
            bad("ask " + what + " of", (d, v) -> d.ask(v, of)).goes(0, 8, 1);
        }
        bad("ask", (d, v) -> d.ask(0, v)).goes(0, 4, 1);
        none("trace", Due.NONE, (d, v) -> {
            d.ask(2, 0);
            return d.trace(v);
        }).goes(0, 11, 3, 21);
        bad("as one of", (d, v) -> d.as(0, v)).goes(0, 1, 4, Due.CAST);
        bad("as of", (d, v) -> d.as(v, 0)).goes(-1, Due.NULL, 8, Due.CAST);
    }

    private static void pairs() {
        bad("PART", (d, v) -> d.ship(4, 0, 0, 0, v, 0)).goes(-1, 8, 9);
        bad("the other PART", (d, v) -> d.ship(4, 0, 0, 0, 0, v)).goes(-1, 8, 9);
        onNew("PART of the first SHIP", BAD, (d, v) -> d.ship(4, 0, 0, 0, v, -1)).goes(-1, -1, 0);
        onNew("the other PART of the first SHIP", BAD, (d, v) -> d.ship(4, 0, 0, 0, -1, v)).goes(-1, -1, 0);
        for (int kind = 0; kind < 4; kind++) {
            for (int v : new int[] {Due.MIN, -2, -1, 0, 9, Due.MAX}) {
                due.is("else not looked at", Full.make().ship(kind, 0, 0, 0, v, v), 9);
            }
        }
    }

    private static void fleets() {
        onNew("fleet", BAD, (d, v) -> d.fleet(v, 0, 1)).goes(0, 3, 1);
        onNew("SORT", BAD, (d, v) -> d.fleet(0, v, 1)).goes(0, 5, 1);
        TideDesk d = new TideDesk();
        due.row("n", Due.row(Due.SIZE, Due.SIZE, 1, 1, BAD, BAD), d.fleet(0, 0, Due.MIN), d.fleet(0, 0, -1), d.fleet(0, 0, 0),
            d.fleet(0, 0, 8), d.fleet(0, 0, 9), d.fleet(0, 0, Due.MAX));
        bad("join of", (e, v) -> e.join(v, 0, -1)).goes(0, 1, 3, Due.NULL);
        none("join at", Due.INDEX, (e, v) -> e.join(0, v, 0)).goes(0, 2, 1);
        bad("join a SHIP", (e, v) -> e.join(0, 0, v)).goes(-1, 8, 1);
        bad("member of", (e, v) -> e.member(v, 0)).goes(0, 3, 3, Due.NULL);
        none("member", Due.INDEX, (e, v) -> e.member(0, v)).goes(0, 3, 2, Due.NONE);
        bad("shared of", (e, v) -> e.shared(v, 0)).goes(0, 1, 3, Due.NULL);
        bad("cost", (e, v) -> e.shared(0, v)).goes(0, 1000000, 1);
        bad("move of", (e, v) -> e.move(v, 0, 0, 0, 0)).goes(0, 0, 3, Due.NULL);
        bad("move to", (e, v) -> e.move(0, 0, v, 0, 0)).goes(0, 0, 3, Due.NULL);
    }

    /** FLEET 0 has 3 places, FLEET 1 has 2. */
    private static void places() {
        none("move one from", Due.INDEX, (d, v) -> d.move(0, v, 0, 0, 1)).goes(0, 2, 1);
        none("move one to", Due.INDEX, (d, v) -> d.move(0, 2, 0, v, 1)).goes(0, 2, 1);
        none("move none from", Due.INDEX, (d, v) -> d.move(0, v, 0, 0, 0)).goes(0, 3, 0);
        none("move none to", Due.INDEX, (d, v) -> d.move(0, 0, 0, v, 0)).goes(0, 3, 0);
        none("move n within", Due.INDEX, (d, v) -> d.move(0, 0, 0, 0, v)).goes(0, 0, 3, 3);
        none("move n from 1 on", Due.INDEX, (d, v) -> d.move(0, 1, 0, 0, v)).goes(0, 0, 2, 2);
        none("move n to 1", Due.INDEX, (d, v) -> d.move(0, 0, 0, 1, v)).goes(0, 0, 2, 2);
        none("move n to fewer", Due.INDEX, (d, v) -> d.move(0, 1, 1, 0, v)).goes(0, 0, 2, 2);
        none("move n of fewer", Due.INDEX, (d, v) -> d.move(1, 0, 0, 0, v)).goes(0, 0, 2, 2);
        none("move n of none", Due.INDEX, (d, v) -> d.move(2, 0, 0, 0, v)).goes(0, 0, 0);
    }

    private static void routes() {
        Supplier<TideDesk> one = () -> {
            TideDesk d = new TideDesk();
            d.shoal(0, 0, 0);
            d.shoal(0, 0, 0);
            return d;
        };
        new Span("leg of", BAD, (d, v) -> d.leg(v, 0, 0, 0), one).goes(0, 5, 1);
        new Span("leg over", BAD, (d, v) -> d.leg(0, v, 0, 0), one).goes(0, 1, 1);
        new Span("DISTANCE", BAD, (d, v) -> d.leg(0, 0, v, 0), one).goes(0, 50000, 1);
        new Span("DISTANCE behind 500", BAD, (d, v) -> {
            d.leg(0, 0, 500, 0);
            return d.leg(0, 0, v, 0);
        }, one).goes(500, 50000, 2);
        new Span("DISTANCE behind the farthest", BAD, (d, v) -> {
            d.leg(0, 0, 50000, 0);
            return d.leg(0, 0, v, 0);
        }, one).goes(50000, 50000, 2);
        for (int mark : new int[] {0, 1, 0x7f800000, 1 << 31, 0x7f800001, NO_FLOAT, Due.MAX, 0xff800001, 0xffc00000, -1}) {
            due.is("MARK " + mark, one.get().leg(0, 0, 0, mark), 1);
        }
        for (int mark : new int[] {0x80000001, Due.bits(-Float.MIN_NORMAL), Due.bits(-1.0f), Due.bits(-Float.MAX_VALUE), 0xff800000}) {
            due.is("MARK " + mark, one.get().leg(0, 0, 0, mark), BAD);
        }
        onNew("clear", BAD, (d, v) -> d.clear(v)).goes(0, 5, 0);
        onNew("RISE", BAD, (d, v) -> d.sun(v, 0)).goes(0, 86400, 1);
        onNew("SET", BAD, (d, v) -> d.sun(0, v)).goes(0, 86400, 1);
        bad("comes of", (d, v) -> d.comes(v, 0, 0, 5)).goes(0, 5, 8, Due.NO);
        bad("comes on", (d, v) -> d.comes(1, v, 0, 5)).goes(0, 5, 4, 5);
        bad("comes to", (d, v) -> d.comes(1, Full.LONG, v, 0)).goes(0, 0, 3, 300);
        bad("comes from", (d, v) -> d.comes(1, 0, 0, v)).goes(0, 0, LAST, LAST);
    }

    private static void windows() {
        bad("holds of", (d, v) -> d.holds(v, Full.EMPTY, 0)).goes(0, 1, 8, Due.NO);
        bad("holds on", (d, v) -> d.holds(1, v, 0)).goes(0, 5, 1);
        bad("holds at", (d, v) -> d.holds(1, Full.EMPTY, v)).goes(0, 43199, 1);
        bad("windows of", (d, v) -> d.windows(v, Full.EMPTY, 0, 1)).goes(0, 1, 8, 0);
        bad("windows on", (d, v) -> d.windows(1, v, 0, 1)).goes(0, 5, 1);
        bad("windows n", (d, v) -> d.windows(1, Full.EMPTY, 0, v)).goes(1, 120, 1);
        for (int n : new int[] {1, 2, 119, 120}) {
            bad("windows from, of " + n, (d, v) -> d.windows(1, Full.EMPTY, v, n)).goes(0, 43200 - n, 1);
            bad("windows n, till the last minute", (d, v) -> d.windows(1, Full.EMPTY, 43200 - n, v)).goes(1, n, 1);
        }
        none("window", Due.NONE, (d, v) -> d.window(v, false)).goes(0, 0, 360);
        none("window's last", Due.NONE, (d, v) -> d.window(v, true)).goes(0, 0, 369);
        bad("wrong", (d, v) -> d.wrong(v)).goes(0, 1, 0);
    }

    private static void passages() {
        bad("passage of", (d, v) -> d.passage(v, 0, 0)).goes(0, 8, 8);
        bad("passage on", (d, v) -> d.passage(0, v, 0)).goes(0, 5, 8);
        bad("passage from", (d, v) -> d.passage(0, 0, v)).goes(0, 43199, 8);
        bad("planned of", (d, v) -> d.planned(v, 0)).goes(0, 0, 7, 1);
        bad("start of", (d, v) -> d.planned(v, 1)).goes(0, 50, 7, Due.NONE);
        bad("WAITED of", (d, v) -> d.planned(v, 2)).goes(0, 7, NOW);
        bad("planned", (d, v) -> d.planned(0, v)).goes(0, 0, 2, NOW);
        bad("again", (d, v) -> d.again(v)).goes(0, 1, 7, Due.NO);
        bad("pass", (d, v) -> d.pass(v)).goes(0, 1, 7, Due.HELD);
        bad("held", (d, v) -> d.held(v)).goes(0, 0, 1, 1);
    }

    private static void status() {
        bad("count", (d, v) -> d.count(v)).goes(0, NOW, 8, Full.make().count(8));
        TideDesk d = Full.make();
        due.row("count", Due.row(NOW, 3, 4, 4, 2, 9, 8, 1), d.count(0), d.count(1), d.count(2), d.count(3), d.count(4), d.count(5),
            d.count(6), d.count(7));
    }
}
