/** What the tests share: answers that are due, bits of reals, and names of parts and moves. */
final class Check {
    static final int LENGTH = 0, PULL = 1, KNOTS = 2, TWIST = 3, LOW = 4, HIGH = 5;
    static final int TILT = 0, WEIGHT = 1, COUNT = 2, TURN = 3;
    static final int FLIP = 0, STRETCH = 1, EASE = 2, DOWN = 3, UP = 4, NEAR = 5, LEAN = 6, MIRROR = 7,
            HOLD = 8, STOPS = 9, GATHER = 10, TRADE = 11, CLIMB = 12, HALVE = 13, DOUBLE = 14, GIVE = 15;
    static final int NONE = -1;
    static final double INFINITY = Double.POSITIVE_INFINITY;
    static final float SHORT_INFINITY = Float.POSITIVE_INFINITY;
    /** Numbers that are no thread, no part, no place: the nearest ones and the farthest. */
    static final int[] OUTSIDE = {-1, 8, 9, -8, 16, Integer.MIN_VALUE, Integer.MAX_VALUE};

    private int wrong = 0;

    void due(String call, long got, long want) {
        if (got != want) {
            wrong++;
            System.out.println(call + " answered " + got + ", due is " + want);
        }
    }

    void end() {
        if (wrong != 0) {
            System.out.println(wrong + " answers are not as due");
            System.exit(1);
        }
    }

    static long bits(double real) {
        return Double.doubleToRawLongBits(real);
    }

    static long bits(float real) {
        return Float.floatToRawIntBits(real);
    }

    /** Sets LENGTH, PULL, KNOTS and TWIST of a thread. */
    static void put(PuppetBar x, int t, double length, float pull, int knots, long twist) {
        x.set(t, LENGTH, bits(length));
        x.set(t, PULL, bits(pull));
        x.set(t, KNOTS, knots);
        x.set(t, TWIST, twist);
    }

    void dueThread(String when, PuppetBar x, int t, double length, float pull, int knots, long twist) {
        due(when + ": LENGTH of " + t, x.get(t, LENGTH), bits(length));
        due(when + ": PULL of " + t, x.get(t, PULL), bits(pull));
        due(when + ": KNOTS of " + t, x.get(t, KNOTS), knots);
        due(when + ": TWIST of " + t, x.get(t, TWIST), twist);
    }

    void dueStops(String when, PuppetBar x, int t, double low, double high) {
        due(when + ": LOW of " + t, x.get(t, LOW), bits(low));
        due(when + ": HIGH of " + t, x.get(t, HIGH), bits(high));
    }

    void dueFirstState(String when, PuppetBar x, int t) {
        dueThread(when, x, t, 0.0, 0.0f, 0, 0L);
        dueStops(when, x, t, -INFINITY, INFINITY);
    }

    void dueBar(String when, PuppetBar x, double tilt, float weight, int count, long turn) {
        due(when + ": TILT", x.bar(TILT), bits(tilt));
        due(when + ": WEIGHT", x.bar(WEIGHT), bits(weight));
        due(when + ": COUNT", x.bar(COUNT), count);
        due(when + ": TURN", x.bar(TURN), turn);
    }

    void dueDanced(String when, PuppetBar x, int... parts) {
        for (int what = 0; what < parts.length; what++) {
            due(when + ": danced(" + what + ")", x.danced(what), parts[what]);
        }
    }
}
