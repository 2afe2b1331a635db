/** What the tests share: answers that are due, bits of reals, and names of parts and moves. */
final class Check {
    static final int LENGTH = 0, PULL = 1, KNOTS = 2, TWIST = 3, LOW = 4, HIGH = 5;
    static final int TILT = 0, WEIGHT = 1, COUNT = 2, TURN = 3;
    static final int FLIP = 0, STRETCH = 1, EASE = 2, DOWN = 3, UP = 4, NEAR = 5, LEAN = 6, MIRROR = 7,
            HOLD = 8, STOPS = 9, GATHER = 10, TRADE = 11, CLIMB = 12, HALVE = 13, DOUBLE = 14, GIVE = 15;
    static final int NONE = -1;
    static final double INFINITY = Double.POSITIVE_INFINITY;
    static final float SHORT_INFINITY = Float.POSITIVE_INFINITY;
    /** Numbers that are no thread, no part, no place: the nearest ones and the farthest. */
    static final int[] OUTSIDE = {-1, 8, 9, -8, 16, Integer.MIN_VALUE, Integer.MAX_VALUE};

    /** The thread that withOneCut() has cut. */
    static final int CUT = 3;
    /** Reals from below to above, and short ones likewise: neighbours of 0, of 1, and the ends. */
    static final double[] LADDER = {-INFINITY, -Double.MAX_VALUE, -1.0000000000000002, -1.0, -0.9999999999999999,
        -Double.MIN_NORMAL, -2 * Double.MIN_VALUE, -Double.MIN_VALUE, -0.0, 0.0, Double.MIN_VALUE,
        2 * Double.MIN_VALUE, Double.MIN_NORMAL, 0.9999999999999999, 1.0, 1.0000000000000002, Double.MAX_VALUE,
        INFINITY};
    static final float[] SHORT_LADDER = {-SHORT_INFINITY, -Float.MAX_VALUE, -1.0000001f, -1.0f, -0.99999994f,
        -Float.MIN_NORMAL, -2 * Float.MIN_VALUE, -Float.MIN_VALUE, -0.0f, 0.0f, Float.MIN_VALUE,
        2 * Float.MIN_VALUE, Float.MIN_NORMAL, 0.99999994f, 1.0f, 1.0000001f, Float.MAX_VALUE, SHORT_INFINITY};

    private int wrong = 0;
    private String sentence = "";

    /** The document's sentence that the answers from here on are due by. */
    void sentence(String words) {
        sentence = "\"" + words + "\" ";
    }

    void due(String call, long got, long want) {
        if (got != want) {
            wrong++;
            System.out.println(sentence + call + " answered " + got + ", due is " + want);
        }
    }

    void end() {
        if (wrong != 0) {
            System.out.println(wrong + " answers are not as due");
            System.exit(1);
        }
    }

    static long bits(double real) {
        return Double.doubleToRawLongBits(real);
    }

    static long bits(float real) {
        return Float.floatToRawIntBits(real);
    }

    static PuppetBar withOneCut() {
        PuppetBar x = new PuppetBar();
        x.cut(CUT);
        return x;
    }

    /** Sets LENGTH, PULL, KNOTS and TWIST of a thread. */
    static void put(PuppetBar x, int t, double length, float pull, int knots, long twist) {
        x.set(t, LENGTH, bits(length));
        x.set(t, PULL, bits(pull));
        x.set(t, KNOTS, knots);
        x.set(t, TWIST, twist);
    }

    void dueThread(String when, PuppetBar x, int t, double length, float pull, int knots, long twist) {
        due(when + ": LENGTH of " + t, x.get(t, LENGTH), bits(length));
        due(when + ": PULL of " + t, x.get(t, PULL), bits(pull));
        due(when + ": KNOTS of " + t, x.get(t, KNOTS), knots);
        due(when + ": TWIST of " + t, x.get(t, TWIST), twist);
    }

    /** All that can be asked without a change, but for refused(), which the asking changes: 65 calls. */
    static long[] stateOf(PuppetBar x) {
        long[] state = new long[8 * 6 + 4 + 8 + 5];
        int at = 0;
        for (int t = 0; t < 8; t++) {
            for (int what = 0; what < 6; what++) {
                state[at++] = x.get(t, what);
            }
            state[at++] = x.order(t);
        }
        for (int what = 0; what < 4; what++) {
            state[at++] = x.bar(what);
        }
        for (int what = 0; what < 5; what++) {
            state[at++] = x.danced(what);
        }
        return state;
    }

    void dueState(String when, PuppetBar x, long[] want) {
        long[] got = stateOf(x);
        for (int i = 0; i < want.length; i++) {
            due(when + ": state at " + i, got[i], want[i]);
        }
    }

    void dueStops(String when, PuppetBar x, int t, double low, double high) {
        due(when + ": LOW of " + t, x.get(t, LOW), bits(low));
        due(when + ": HIGH of " + t, x.get(t, HIGH), bits(high));
    }

    void dueFirstState(String when, PuppetBar x, int t) {
        dueThread(when, x, t, 0.0, 0.0f, 0, 0L);
        dueStops(when, x, t, -INFINITY, INFINITY);
    }

    void dueBar(String when, PuppetBar x, double tilt, float weight, int count, long turn) {
        due(when + ": TILT", x.bar(TILT), bits(tilt));
        due(when + ": WEIGHT", x.bar(WEIGHT), bits(weight));
        due(when + ": COUNT", x.bar(COUNT), count);
        due(when + ": TURN", x.bar(TURN), turn);
    }

    void dueOrder(String when, PuppetBar x, int... threads) {
        for (int k = 0; k < threads.length; k++) {
            due(when + ": order(" + k + ")", x.order(k), threads[k]);
        }
    }

    void dueDanced(String when, PuppetBar x, int... parts) {
        for (int what = 0; what < parts.length; what++) {
            due(when + ": danced(" + what + ")", x.danced(what), parts[what]);
        }
    }
}
