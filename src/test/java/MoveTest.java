/** Promise 7: move, with what the document's Terms say of each of the 16 moves and of their refusals. */
public final class MoveTest {
    private static final Check check = new Check();
    private static final double LEAST = Double.MIN_VALUE;
    private static final float SHORT_LEAST = Float.MIN_VALUE;
    private static final int MIN = Integer.MIN_VALUE;
    private static final long LONG_MIN = Long.MIN_VALUE;

    public static void main(String[] args) {
        flip();
        stretchAndEase();
        wholeReals();
        lean();
        mirror();
        hold();
        stops();
        gather();
        trade();
        climb();
        halveAndDouble();
        give();
        refusals();
        sameThreadTwice();
        eachMoveLeavesTheRestAlone();
        check.end();
    }

    private static void flip() {
        PuppetBar x = new PuppetBar();
        Check.put(x, 0, -1.5, -2.5f, -3, -4L);
        check.due("FLIP", x.move(Check.FLIP, 0, 99), 4);
        check.dueThread("FLIP", x, 0, 1.5, 2.5f, 3, 4L);
        check.due("FLIP again", x.move(Check.FLIP, 0, 0), 0);
        Check.put(x, 0, -0.0, -Check.SHORT_INFINITY, MIN, LONG_MIN);
        check.due("FLIP, the least ones stay", x.move(Check.FLIP, 0, -1), 2);
        check.dueThread("FLIP, the least ones stay", x, 0, 0.0, Check.SHORT_INFINITY, MIN, LONG_MIN);
    }

    private static void stretchAndEase() {
        PuppetBar x = new PuppetBar();
        Check.put(x, 0, -0.0, 0.0f, MIN, 7L);
        Check.put(x, 1, 0.0, -0.0f, 0, LONG_MIN);
        check.due("STRETCH", x.move(Check.STRETCH, 0, 1), 2);
        check.dueThread("STRETCH", x, 0, 0.0, 0.0f, 0, 7L);
        check.dueThread("STRETCH leaves u", x, 1, 0.0, -0.0f, 0, LONG_MIN);
        Check.put(x, 0, -0.0, 0.0f, MIN, 7L);
        check.due("EASE", x.move(Check.EASE, 0, 1), 2);
        check.dueThread("EASE", x, 0, -0.0, -0.0f, MIN, LONG_MIN);
        check.dueThread("EASE leaves u", x, 1, 0.0, -0.0f, 0, LONG_MIN);

        Check.put(x, 2, -3.0, -Check.SHORT_INFINITY, -3, -3L);
        Check.put(x, 3, -2.0, -1.0f, -2, -2L);
        check.due("STRETCH below 0", x.move(Check.STRETCH, 2, 3), 4);
        check.dueThread("STRETCH below 0", x, 2, -2.0, -1.0f, -2, -2L);
        Check.put(x, 2, 3.0, Check.SHORT_INFINITY, 3, 3L);
        check.due("EASE to below 0", x.move(Check.EASE, 2, 3), 4);
        check.dueThread("EASE to below 0", x, 2, -2.0, -1.0f, -2, -2L);
        check.due("STRETCH of the same", x.move(Check.STRETCH, 2, 3), 0);
        x.set(3, Check.LOW, Check.bits(9.0));
        x.move(Check.STRETCH, 2, 3);
        check.dueStops("STRETCH leaves the stops", x, 2, -Check.INFINITY, Check.INFINITY);
    }

    private static void wholeReals() {
        double[] reals = {0.0, LEAST, 0.25, 0.49999999999999994, 0.5, 0.5000000000000001, 0.75, 0.9999999999999999,
            1.0, 1.4999999999999998, 1.5, 2.5, 3.5, 3.75, 7.5, 4503599627370495.5, 4503599627370494.5,
            2251799813685247.75, 2251799813685247.25, 4503599627370496.0, 9007199254740991.0, 1e300,
            Double.MAX_VALUE, Double.MIN_NORMAL, Check.INFINITY};
        float[] shorts = {0.0f, SHORT_LEAST, 0.25f, 0.49999997f, 0.5f, 0.50000006f, 0.75f, 0.99999994f,
            1.0f, 1.4999999f, 1.5f, 2.5f, 3.5f, 3.75f, 7.5f, 8388607.5f, 8388606.5f,
            4194303.75f, 4194303.25f, 8388608.0f, 16777215.0f, 1e30f,
            Float.MAX_VALUE, Float.MIN_NORMAL, Check.SHORT_INFINITY};
        for (int i = 0; i < reals.length; i++) {
            wholeReal(reals[i], shorts[i]);
            wholeReal(-reals[i], -shorts[i]);
            wholeReal(-reals[i], shorts[i]);
        }
        whole("-0.5 is not above -1", Check.DOWN, -0.5, -0.5f, -1.0, -1.0f);
        whole("above -1 and below 0: -0.0", Check.UP, -0.5, -SHORT_LEAST, -0.0, -0.0f);
        whole("of two the even one", Check.NEAR, 2.5, 3.5f, 2.0, 4.0f);
        whole("of two the even one, 0 and 1", Check.NEAR, 0.5, 1.5f, 0.0, 2.0f);
        whole("below 0: -0.0", Check.NEAR, -0.5, -0.25f, -0.0, -0.0f);
        whole("-0.0 itself", Check.NEAR, -0.0, -0.0f, -0.0, -0.0f);
        whole("a zero itself", Check.DOWN, -0.0, 0.0f, -0.0, 0.0f);
        whole("an infinity itself", Check.DOWN, -Check.INFINITY, Check.SHORT_INFINITY, -Check.INFINITY,
                Check.SHORT_INFINITY);
    }

    private static void wholeReal(double real, float shortReal) {
        whole("DOWN", Check.DOWN, real, shortReal, Math.floor(real), (float) Math.floor(shortReal));
        whole("UP", Check.UP, real, shortReal, Math.ceil(real), (float) Math.ceil(shortReal));
        whole("NEAR", Check.NEAR, real, shortReal, Math.rint(real), (float) Math.rint(shortReal));
    }

    private static void whole(String when, int m, double length, float pull, double wholeLength, float wholePull) {
        PuppetBar x = new PuppetBar();
        Check.put(x, 3, length, pull, -6, -7L);
        int changed = (Check.bits(length) == Check.bits(wholeLength) ? 0 : 1)
                + (Check.bits(pull) == Check.bits(wholePull) ? 0 : 1);
        String told = when + " of " + length + " and " + pull;
        check.due(told, x.move(m, 3, MIN), changed);
        check.dueThread(told, x, 3, wholeLength, wholePull, -6, -7L);
    }

    private static void lean() {
        leanBy(LEAST, -SHORT_LEAST, 1.0, -1.0f);
        leanBy(-LEAST, SHORT_LEAST, -1.0, 1.0f);
        leanBy(0.0, -0.0f, 0.0, -0.0f);
        leanBy(-0.0, 0.0f, -0.0, 0.0f);
        leanBy(-Check.INFINITY, Check.SHORT_INFINITY, -1.0, 1.0f);
        leanBy(3.0, -3.0f, 1.0, -1.0f);
    }

    private static void leanBy(double length, float pull, double tilt, float weight) {
        PuppetBar x = new PuppetBar();
        Check.put(x, 0, 5.0, 5.0f, 5, 5L);
        x.move(Check.LEAN, 0, 0);
        Check.put(x, 1, length, pull, 5, 5L);
        check.due("LEAN changes no thread", x.move(Check.LEAN, 1, 8), 0);
        check.dueThread("LEAN", x, 1, length, pull, 5, 5L);
        check.dueBar("LEAN by " + length + " and " + pull, x, tilt, weight, 0, 0L);
    }

    private static void mirror() {
        PuppetBar x = new PuppetBar();
        Check.put(x, 0, 1.5, -2.5f, -3, -4L);
        Check.put(x, 1, -0.0, 0.0f, 3, 4L);
        check.due("MIRROR", x.move(Check.MIRROR, 0, 1), 2);
        check.dueThread("MIRROR", x, 0, -1.5, 2.5f, -3, -4L);
        check.dueThread("MIRROR leaves u", x, 1, -0.0, 0.0f, 3, 4L);
        check.due("MIRROR again", x.move(Check.MIRROR, 0, 1), 0);
        check.due("MIRROR of a zero", x.move(Check.MIRROR, 2, 1), 1);
        check.dueThread("MIRROR of a zero", x, 2, -0.0, 0.0f, 0, 0L);
        Check.put(x, 1, Check.INFINITY, -SHORT_LEAST, 0, 0L);
        check.due("MIRROR back", x.move(Check.MIRROR, 0, 1), 2);
        check.dueThread("MIRROR back", x, 0, 1.5, -2.5f, -3, -4L);
    }

    private static void hold() {
        holdBetween(5.0, 1.0, 3.0, 3.0);
        holdBetween(-5.0, 1.0, 3.0, 1.0);
        holdBetween(2.0, 1.0, 3.0, 2.0);
        holdBetween(2.0, 3.0, 1.0, 1.0);
        holdBetween(-0.0, 0.0, Check.INFINITY, 0.0);
        holdBetween(0.0, -Check.INFINITY, -0.0, -0.0);
        holdBetween(-Check.INFINITY, -Check.INFINITY, Check.INFINITY, -Check.INFINITY);
        holdBetween(-4.0, -3.0, -2.0, -3.0);
    }

    private static void holdBetween(double length, double low, double high, double held) {
        PuppetBar x = new PuppetBar();
        Check.put(x, 6, length, 9.0f, 9, 9L);
        x.set(6, Check.LOW, Check.bits(low));
        x.set(6, Check.HIGH, Check.bits(high));
        check.due("HOLD of " + length, x.move(Check.HOLD, 6, 8), Check.bits(length) == Check.bits(held) ? 0 : 1);
        check.dueThread("HOLD of " + length, x, 6, held, 9.0f, 9, 9L);
        check.dueStops("HOLD leaves the stops", x, 6, low, high);
    }

    private static void stops() {
        PuppetBar x = new PuppetBar();
        Check.put(x, 0, 2.0, 1.0f, 1, 1L);
        Check.put(x, 1, -2.0, -1.0f, -1, -1L);
        check.due("STOPS", x.move(Check.STOPS, 0, 1), 0);
        check.dueStops("STOPS", x, 0, -2.0, 2.0);
        check.dueStops("STOPS leaves u", x, 1, -Check.INFINITY, Check.INFINITY);
        check.dueThread("STOPS", x, 0, 2.0, 1.0f, 1, 1L);
        check.due("STOPS", x.move(Check.STOPS, 1, 0), 0);
        check.dueStops("STOPS the other way", x, 1, -2.0, 2.0);
        x.set(0, Check.LENGTH, Check.bits(0.0));
        x.set(1, Check.LENGTH, Check.bits(-0.0));
        x.move(Check.STOPS, 0, 1);
        check.dueStops("STOPS of zeros", x, 0, -0.0, 0.0);
    }

    private static void gather() {
        PuppetBar x = new PuppetBar();
        Check.put(x, 0, -4.0, -4.0f, -4, -4L);
        check.due("GATHER", x.move(Check.GATHER, 0, 8), 0);
        check.dueBar("GATHER", x, 4.0, 0.0f, 4, 0L);
        check.dueThread("GATHER leaves t", x, 0, -4.0, -4.0f, -4, -4L);
        Check.put(x, 1, 3.0, 3.0f, MIN, LONG_MIN);
        x.move(Check.GATHER, 1, 1);
        check.dueBar("GATHER of the least ones", x, 4.0, 0.0f, 4, LONG_MIN);
        Check.put(x, 2, -0.0, -0.0f, 0, 0L);
        x.move(Check.LEAN, 2, 2);
        check.dueBar("LEAN by zeros", x, -0.0, -0.0f, 4, LONG_MIN);
        x.move(Check.GATHER, 2, 2);
        check.dueBar("GATHER of zeros", x, 0.0, -0.0f, 4, LONG_MIN);
        Check.put(x, 3, 1.0, 5.0f, 1, 1L);
        x.move(Check.LEAN, 3, 3);
        Check.put(x, 3, -Check.INFINITY, -0.5f, -9, 1L);
        x.move(Check.GATHER, 3, 3);
        check.dueBar("GATHER of the lesser PULL", x, Check.INFINITY, 0.5f, 9, LONG_MIN);
    }

    private static void trade() {
        PuppetBar x = new PuppetBar();
        Check.put(x, 0, 1.0, 2.0f, 3, 4L);
        x.set(0, Check.LOW, Check.bits(5.0));
        x.set(0, Check.HIGH, Check.bits(6.0));
        check.due("TRADE", x.move(Check.TRADE, 0, 7), 8);
        check.dueFirstState("TRADE", x, 0);
        check.dueThread("TRADE", x, 7, 1.0, 2.0f, 3, 4L);
        check.dueStops("TRADE", x, 7, 5.0, 6.0);
        Check.put(x, 0, 1.0, 2.0f, 3, 5L);
        check.due("TRADE of what is alike", x.move(Check.TRADE, 0, 7), 2);
        check.dueStops("TRADE of stops", x, 0, 5.0, 6.0);
        Check.put(x, 1, 0.0, 0.0f, 0, 0L);
        Check.put(x, 2, -0.0, 0.0f, 0, 0L);
        check.due("TRADE of zeros, by their bits", x.move(Check.TRADE, 1, 2), 2);
    }

    private static void climb() {
        climbBy(LEAST, -SHORT_LEAST, 5, 5L, 6, 4L);
        climbBy(-Check.INFINITY, Check.SHORT_INFINITY, 5, 5L, 4, 6L);
        climbBy(0.0, -0.0f, 5, 5L, 5, 5L);
        climbBy(-0.0, 0.0f, 5, 5L, 5, 5L);
        climbBy(1.0, 1.0f, Integer.MAX_VALUE, Long.MAX_VALUE, MIN, LONG_MIN);
        climbBy(-1.0, -1.0f, MIN, LONG_MIN, Integer.MAX_VALUE, Long.MAX_VALUE);
        climbBy(1.0, 0.0f, 0, 0L, 1, 0L);
        climbBy(0.0, 1.0f, 0, 0L, 0, 1L);
    }

    private static void climbBy(double length, float pull, int knots, long twist, int knotsThen, long twistThen) {
        PuppetBar x = new PuppetBar();
        Check.put(x, 4, length, pull, knots, twist);
        int changed = (knots == knotsThen ? 0 : 1) + (twist == twistThen ? 0 : 1);
        String told = "CLIMB by " + length + " and " + pull;
        check.due(told, x.move(Check.CLIMB, 4, -1), changed);
        check.dueThread(told, x, 4, length, pull, knotsThen, twistThen);
    }

    private static void halveAndDouble() {
        scaled("HALVE", Check.HALVE, 3.0, -3.0f, 1.5, -1.5f);
        scaled("HALVE of the least", Check.HALVE, LEAST, -SHORT_LEAST, 0.0, -0.0f);
        scaled("HALVE to the last bit 0", Check.HALVE, 3 * LEAST, 3 * SHORT_LEAST, 2 * LEAST, 2 * SHORT_LEAST);
        scaled("HALVE to the last bit 0", Check.HALVE, -5 * LEAST, 5 * SHORT_LEAST, -2 * LEAST, 2 * SHORT_LEAST);
        scaled("HALVE of infinities", Check.HALVE, -Check.INFINITY, Check.SHORT_INFINITY, -Check.INFINITY,
                Check.SHORT_INFINITY);
        scaled("HALVE of zeros", Check.HALVE, -0.0, 0.0f, -0.0, 0.0f);
        scaled("DOUBLE", Check.DOUBLE, 1.5, -1.5f, 3.0, -3.0f);
        scaled("DOUBLE of the least", Check.DOUBLE, LEAST, -SHORT_LEAST, 2 * LEAST, -2 * SHORT_LEAST);
        scaled("DOUBLE of the greatest", Check.DOUBLE, -Double.MAX_VALUE, Float.MAX_VALUE, -Check.INFINITY,
                Check.SHORT_INFINITY);
        scaled("DOUBLE of infinities", Check.DOUBLE, Check.INFINITY, -Check.SHORT_INFINITY, Check.INFINITY,
                -Check.SHORT_INFINITY);
        scaled("DOUBLE of zeros", Check.DOUBLE, -0.0, 0.0f, -0.0, 0.0f);
        double[] reals = {Double.MIN_NORMAL, Math.nextDown(Double.MIN_NORMAL), Math.nextUp(Double.MIN_NORMAL),
            2 * Double.MIN_NORMAL, Math.nextDown(2 * Double.MIN_NORMAL), Math.nextUp(2 * Double.MIN_NORMAL),
            Double.MIN_NORMAL / 2, Double.MAX_VALUE, Double.MAX_VALUE / 2, Math.nextUp(Double.MAX_VALUE / 2), 1e-320};
        float[] shorts = {Float.MIN_NORMAL, Math.nextDown(Float.MIN_NORMAL), Math.nextUp(Float.MIN_NORMAL),
            2 * Float.MIN_NORMAL, Math.nextDown(2 * Float.MIN_NORMAL), Math.nextUp(2 * Float.MIN_NORMAL),
            Float.MIN_NORMAL / 2, Float.MAX_VALUE, Float.MAX_VALUE / 2, Math.nextUp(Float.MAX_VALUE / 2), 1e-42f};
        for (int i = 0; i < reals.length; i++) {
            scaled("HALVE", Check.HALVE, reals[i], -shorts[i], reals[i] / 2, -shorts[i] / 2);
            scaled("DOUBLE", Check.DOUBLE, -reals[i], shorts[i], -reals[i] * 2, shorts[i] * 2);
        }
    }

    private static void scaled(String when, int m, double length, float pull, double lengthThen, float pullThen) {
        whole(when, m, length, pull, lengthThen, pullThen);
    }

    private static void give() {
        PuppetBar x = new PuppetBar();
        Check.put(x, 0, -4.0, -4.0f, -4, LONG_MIN);
        x.move(Check.LEAN, 0, 0);
        x.move(Check.GATHER, 0, 0);
        x.set(1, Check.LOW, Check.bits(1.0));
        check.due("GIVE", x.move(Check.GIVE, 1, 8), 4);
        check.dueThread("GIVE", x, 1, 4.0, -1.0f, 4, LONG_MIN);
        check.dueStops("GIVE leaves the stops", x, 1, 1.0, Check.INFINITY);
        check.dueBar("GIVE leaves the bar", x, 4.0, -1.0f, 4, LONG_MIN);
        check.due("GIVE again", x.move(Check.GIVE, 1, 1), 0);
    }

    private static void refusals() {
        for (int m = 0; m < 16; m++) {
            PuppetBar x = new PuppetBar();
            x.cut(6);
            boolean wantsU = m == 1 || m == 2 || m == 7 || m == 9 || m == 11;
            for (int outside : Check.OUTSIDE) {
                refusal(x, m, outside, 0, 1);
                refusal(x, m, outside, 6, 1);
                refusal(x, m, outside, outside, 1);
                refusal(x, m, 6, outside, 2);
                refusal(x, m, 0, outside, wantsU ? 3 : 0);
            }
            refusal(x, m, 6, 6, 2);
            refusal(x, m, 0, 6, wantsU ? 4 : 0);
            refusal(x, m, 0, 7, 0);
        }
        PuppetBar x = new PuppetBar();
        x.cut(6);
        for (int m : new int[] {-1, 16, 17, MIN, Integer.MAX_VALUE}) {
            refusal(x, m, 0, 0, 5);
            refusal(x, m, 8, 8, 5);
            refusal(x, m, 6, 6, 5);
        }
        Check.put(x, 0, -1.0, -1.0f, -1, -1L);
        for (int m = -1; m <= 16; m++) {
            x.move(m, 8, 0);
            if (m < 0 || m > 15) {
                x.move(m, 0, 0);
            }
        }
        x.move(Check.MIRROR, 0, 8);
        x.move(Check.STRETCH, 0, 6);
        check.dueThread("what is refused changes nothing", x, 0, -1.0, -1.0f, -1, -1L);
        check.dueBar("what is refused changes nothing", x, 0.0, 0.0f, 0, 0L);
    }

    private static void refusal(PuppetBar x, int m, int t, int u, int want) {
        String call = "move(" + m + ", " + t + ", " + u + ")";
        check.due(call, x.move(m, t, u), want == 0 ? 0 : -1);
        check.due("refused() of " + call, x.refused(), want);
    }

    private static void sameThreadTwice() {
        for (int m : new int[] {Check.STRETCH, Check.EASE, Check.MIRROR, Check.STOPS, Check.TRADE}) {
            PuppetBar x = new PuppetBar();
            Check.put(x, 2, -1.5, -0.0f, MIN, 8L);
            check.due("move " + m + " of one thread", x.move(m, 2, 2), 0);
            check.dueThread("move " + m + " of one thread", x, 2, -1.5, -0.0f, MIN, 8L);
            boolean stopped = m == Check.STOPS;
            check.dueStops("move " + m, x, 2, stopped ? -1.5 : -Check.INFINITY, stopped ? -1.5 : Check.INFINITY);
        }
    }

    private static void eachMoveLeavesTheRestAlone() {
        for (int m = 0; m < 16; m++) {
            PuppetBar x = withSomethingEverywhere();
            PuppetBar before = withSomethingEverywhere();
            x.move(m, 2, 5);
            boolean isTrade = m == Check.TRADE;
            for (int t = 0; t < 8; t++) {
                if (t != 2 && !(isTrade && t == 5)) {
                    dueAlike(m, x, before, t, Check.LENGTH, Check.HIGH);
                }
            }
            if (!isTrade && m != Check.STOPS) {
                dueAlike(m, x, before, 2, Check.LOW, Check.HIGH);
            }
            for (int what = 0; m != Check.LEAN && m != Check.GATHER && what < 4; what++) {
                check.due("move " + m + " leaves the bar: bar(" + what + ")", x.bar(what), before.bar(what));
            }
        }
    }

    /** A state in which thread 2 would change the bar by LEAN and by GATHER. */
    private static PuppetBar withSomethingEverywhere() {
        PuppetBar x = new PuppetBar();
        for (int t = 0; t < 8; t++) {
            Check.put(x, t, t - 4.5, 3.25f - t, t - 3, LONG_MIN + 6 - t);
            x.set(t, Check.LOW, Check.bits(-1.0 - t));
            x.set(t, Check.HIGH, Check.bits(1.0 + t));
        }
        x.move(Check.LEAN, 6, 6);
        x.move(Check.GATHER, 6, 6);
        return x;
    }

    private static void dueAlike(int m, PuppetBar x, PuppetBar before, int t, int firstPart, int lastPart) {
        for (int what = firstPart; what <= lastPart; what++) {
            check.due("move " + m + " leaves the rest: get(" + t + ", " + what + ")", x.get(t, what),
                    before.get(t, what));
        }
    }
}
