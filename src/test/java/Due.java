/** Holds answers against those that are due, and tells at the end whether one was not. */
final class Due {
    static final int NONE = -1, BAD = -2, NO = -3, FULL = -4;
    static final int NULL = -11, INDEX = -12, CAST = -13, ZERO = -14, SIZE = -15, STORE = -16, LACK = -17, HELD = -18;
    static final long NO_REAL = 9221120237041090560L;
    static final int NO_FLOAT = 2143289344;
    static final int LAST_MOMENT = 2591999;
    static final int MIN = Integer.MIN_VALUE, MAX = Integer.MAX_VALUE;

    private final String name;
    private int asked;
    private int wrong;

    Due(String name) {
        this.name = name;
    }

    void is(String call, long got, long due) {
        asked++;
        if (got == due) return;
        wrong++;
        System.out.println(name + ": " + call + " answered " + got + ", due is " + due);
    }

    /** Each answer of a row of calls, the same one being due of all. */
    void all(String calls, long due, long... got) {
        for (int i = 0; i < got.length; i++) is(calls + ", call " + i, got[i], due);
    }

    void row(String calls, long[] due, long... got) {
        is(calls + ", how many", got.length, due.length);
        for (int i = 0; i < Math.min(due.length, got.length); i++) is(calls + ", call " + i, got[i], due[i]);
    }

    void trace(TideDesk d, int... bodies) {
        for (int i = 0; i < bodies.length; i++) is("trace(" + i + ")", d.trace(i), bodies[i]);
        is("trace(" + bodies.length + ")", d.trace(bodies.length), NONE);
    }

    void end() {
        System.out.println(name + ": " + (asked - wrong) + " of " + asked + " answers are as due");
        if (wrong != 0) System.exit(1);
    }

    static long real(double v) {
        return Double.doubleToLongBits(v);
    }

    static int bits(float v) {
        return Float.floatToIntBits(v);
    }

    static long[] row(long... due) {
        return due;
    }

    /** Of a run of like FINDINGS: a ship and a route whose minutes have one each. */
    static void useUpFindings(TideDesk d) {
        int shoal = d.shoal(11, 0, 0);
        d.leg(5, shoal, 0, NO_FLOAT);
        int ship = d.ship(1, 0, 100, 0, 0, 0);
        for (int i = 0; i < 25; i++) d.windows(ship, 5, 0, 120);
    }

    /** A station with a mean alone. */
    static void level(TideDesk d, int station, int mean) {
        d.mean(station, mean);
        d.survey(station, 0);
    }
}
