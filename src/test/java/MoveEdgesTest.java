/** Each sentence of the document's moves 0 to 15 that names an edge. */
public final class MoveEdgesTest {
    private static final Check check = new Check();
    private static final int MIN = Integer.MIN_VALUE;
    private static final int MAX = Integer.MAX_VALUE;
    private static final long LONG_MIN = Long.MIN_VALUE;
    private static final long LONG_MAX = Long.MAX_VALUE;
    private static final double LEAST = Double.MIN_VALUE;
    private static final float SHORT_LEAST = Float.MIN_VALUE;
    private static final double INF = Check.INFINITY;
    private static final float SHORT_INF = Check.SHORT_INFINITY;
    /** From here on every real is whole; below it the last one lies at a half. */
    private static final double ALL_WHOLE = 4503599627370496.0;
    private static final float SHORT_ALL_WHOLE = 8388608.0f;

    public static void main(String[] args) {
        flipGivesAmounts();
        stretchGivesTheGreaterOfEach();
        easeGivesTheLesserOfEach();
        downGivesTheGreatestWholeNotAbove();
        downLeavesZerosAndInfinities();
        upGivesTheLeastWholeNotBelow();
        upGivesMinusZeroBelowZero();
        nearGivesTheNearest();
        nearGivesTheEvenOfTwo();
        nearGivesMinusZeroBelowZero();
        leanGoesBySide();
        leanGivesZerosThemselves();
        mirrorGivesTheSignsOfU();
        mirrorTakesTheSignsOfZeros();
        holdGoesByLowThenByHigh();
        stopsAreTheLesserAndTheGreater();
        gatherTakesEachItsWay();
        tradeIsOfAllThatTheyHave();
        climbGoesBySide();
        climbGoesRound();
        halveRoundsToTheNearest();
        halveOfTheLeastIsZero();
        doubleIsTwice();
        doubleCanBeTooGreat();
        giveIsOfTheWholeBar();
        check.end();
    }

    private static void flipGivesAmounts() {
        check.sentence("FLIP: LENGTH, PULL, KNOTS and TWIST of t become their amounts.");
        moved(Check.FLIP, of(-INF, -0.0f, -1, LONG_MIN + 1), of(INF, 0.0f, 1, LONG_MAX));
        moved(Check.FLIP, of(-0.0, -SHORT_INF, MIN + 1, -1L), of(0.0, SHORT_INF, MAX, 1L));
        moved(Check.FLIP, of(-LEAST, -SHORT_LEAST, MIN, LONG_MIN), of(LEAST, SHORT_LEAST, MIN, LONG_MIN));
        moved(Check.FLIP, of(0.0, 0.0f, 0, 0L), of(0.0, 0.0f, 0, 0L));
        moved(Check.FLIP, of(INF, SHORT_INF, MAX, LONG_MAX), of(INF, SHORT_INF, MAX, LONG_MAX));
    }

    private static void stretchGivesTheGreaterOfEach() {
        check.sentence("STRETCH: each of these four of t becomes the greater of it and that of u.");
        movedBy(Check.STRETCH, of(-0.0, -SHORT_INF, MIN, LONG_MAX), of(0.0, SHORT_INF, MAX, LONG_MIN),
                of(0.0, SHORT_INF, MAX, LONG_MAX));
        movedBy(Check.STRETCH, of(-INF, -0.0f, MAX, LONG_MIN), of(INF, 0.0f, MIN, LONG_MAX),
                of(INF, 0.0f, MAX, LONG_MAX));
        movedBy(Check.STRETCH, of(0.0, 0.0f, 0, 0L), of(-0.0, -0.0f, -1, -1L), of(0.0, 0.0f, 0, 0L));
        movedBy(Check.STRETCH, of(-1.0, -1.0f, -1, -1L), of(-2.0, -2.0f, -2, -2L), of(-1.0, -1.0f, -1, -1L));
        movedBy(Check.STRETCH, of(-2.0, -2.0f, -2, -2L), of(-1.0, -1.0f, -1, -1L), of(-1.0, -1.0f, -1, -1L));
    }

    private static void easeGivesTheLesserOfEach() {
        check.sentence("EASE: the lesser.");
        movedBy(Check.EASE, of(0.0, SHORT_INF, MAX, LONG_MIN), of(-0.0, -SHORT_INF, MIN, LONG_MAX),
                of(-0.0, -SHORT_INF, MIN, LONG_MIN));
        movedBy(Check.EASE, of(INF, 0.0f, MIN, LONG_MAX), of(-INF, -0.0f, MAX, LONG_MIN),
                of(-INF, -0.0f, MIN, LONG_MIN));
        movedBy(Check.EASE, of(-0.0, -0.0f, -1, -1L), of(0.0, 0.0f, 0, 0L), of(-0.0, -0.0f, -1, -1L));
        movedBy(Check.EASE, of(-1.0, -1.0f, -1, -1L), of(-2.0, -2.0f, -2, -2L), of(-2.0, -2.0f, -2, -2L));
        movedBy(Check.EASE, of(-2.0, -2.0f, -2, -2L), of(-1.0, -1.0f, -1, -1L), of(-2.0, -2.0f, -2, -2L));
    }

    private static void downGivesTheGreatestWholeNotAbove() {
        check.sentence("DOWN: LENGTH of t becomes the greatest whole real that is not above it");
        realsMoved(Check.DOWN, LEAST, SHORT_LEAST, 0.0, 0.0f);
        realsMoved(Check.DOWN, -LEAST, -SHORT_LEAST, -1.0, -1.0f);
        realsMoved(Check.DOWN, 0.9999999999999999, 0.99999994f, 0.0, 0.0f);
        realsMoved(Check.DOWN, -0.9999999999999999, -0.99999994f, -1.0, -1.0f);
        realsMoved(Check.DOWN, 1.0, -1.0f, 1.0, -1.0f);
        realsMoved(Check.DOWN, 1.0000000000000002, -1.0000001f, 1.0, -2.0f);
        realsMoved(Check.DOWN, -1.0000000000000002, 1.0000001f, -2.0, 1.0f);
        realsMoved(Check.DOWN, 1.9999999999999998, 1.9999999f, 1.0, 1.0f);
        realsMoved(Check.DOWN, ALL_WHOLE - 0.5, SHORT_ALL_WHOLE - 0.5f, ALL_WHOLE - 1, SHORT_ALL_WHOLE - 1);
        realsMoved(Check.DOWN, 0.5 - ALL_WHOLE, 0.5f - SHORT_ALL_WHOLE, -ALL_WHOLE, -SHORT_ALL_WHOLE);
        realsMoved(Check.DOWN, ALL_WHOLE, -SHORT_ALL_WHOLE, ALL_WHOLE, -SHORT_ALL_WHOLE);
        realsMoved(Check.DOWN, ALL_WHOLE + 1, -SHORT_ALL_WHOLE - 1, ALL_WHOLE + 1, -SHORT_ALL_WHOLE - 1);
        realsMoved(Check.DOWN, -Double.MAX_VALUE, Float.MAX_VALUE, -Double.MAX_VALUE, Float.MAX_VALUE);
    }

    private static void downLeavesZerosAndInfinities() {
        check.sentence("(a zero, an infinity itself), and PULL likewise");
        for (int m : new int[] {Check.DOWN, Check.UP, Check.NEAR}) {
            realsMoved(m, 0.0, -0.0f, 0.0, -0.0f);
            realsMoved(m, -0.0, 0.0f, -0.0, 0.0f);
            realsMoved(m, INF, -SHORT_INF, INF, -SHORT_INF);
            realsMoved(m, -INF, SHORT_INF, -INF, SHORT_INF);
        }
    }

    private static void upGivesTheLeastWholeNotBelow() {
        check.sentence("UP: the least one that is not below it");
        realsMoved(Check.UP, LEAST, SHORT_LEAST, 1.0, 1.0f);
        realsMoved(Check.UP, 0.9999999999999999, 0.99999994f, 1.0, 1.0f);
        realsMoved(Check.UP, 1.0, -1.0f, 1.0, -1.0f);
        realsMoved(Check.UP, 1.0000000000000002, -1.0000001f, 2.0, -1.0f);
        realsMoved(Check.UP, -1.0000000000000002, 1.0000001f, -1.0, 2.0f);
        realsMoved(Check.UP, 1.9999999999999998, 1.9999999f, 2.0, 2.0f);
        realsMoved(Check.UP, ALL_WHOLE - 0.5, SHORT_ALL_WHOLE - 0.5f, ALL_WHOLE, SHORT_ALL_WHOLE);
        realsMoved(Check.UP, 0.5 - ALL_WHOLE, 0.5f - SHORT_ALL_WHOLE, 1 - ALL_WHOLE, 1 - SHORT_ALL_WHOLE);
        realsMoved(Check.UP, ALL_WHOLE + 1, -SHORT_ALL_WHOLE - 1, ALL_WHOLE + 1, -SHORT_ALL_WHOLE - 1);
        realsMoved(Check.UP, Double.MAX_VALUE, -Float.MAX_VALUE, Double.MAX_VALUE, -Float.MAX_VALUE);
    }

    private static void upGivesMinusZeroBelowZero() {
        check.sentence("(above -1 and below 0: -0.0)");
        realsMoved(Check.UP, -LEAST, -SHORT_LEAST, -0.0, -0.0f);
        realsMoved(Check.UP, -0.5, -0.5f, -0.0, -0.0f);
        realsMoved(Check.UP, -0.9999999999999999, -0.99999994f, -0.0, -0.0f);
        realsMoved(Check.UP, -1.0, -1.0f, -1.0, -1.0f);
    }

    private static void nearGivesTheNearest() {
        check.sentence("NEAR: the nearest one");
        realsMoved(Check.NEAR, LEAST, SHORT_LEAST, 0.0, 0.0f);
        realsMoved(Check.NEAR, 0.49999999999999994, 0.49999997f, 0.0, 0.0f);
        realsMoved(Check.NEAR, 0.5000000000000001, 0.50000006f, 1.0, 1.0f);
        realsMoved(Check.NEAR, -0.5000000000000001, -0.50000006f, -1.0, -1.0f);
        realsMoved(Check.NEAR, 1.4999999999999998, -1.4999999f, 1.0, -1.0f);
        realsMoved(Check.NEAR, 1.5000000000000002, -1.5000001f, 2.0, -2.0f);
        realsMoved(Check.NEAR, 2.4999999999999996, 2.4999998f, 2.0, 2.0f);
        realsMoved(Check.NEAR, -2.5000000000000004, 2.5000002f, -3.0, 3.0f);
        realsMoved(Check.NEAR, ALL_WHOLE / 2 - 0.25, SHORT_ALL_WHOLE / 2 - 0.25f, ALL_WHOLE / 2, SHORT_ALL_WHOLE / 2);
        realsMoved(Check.NEAR, ALL_WHOLE + 1, -SHORT_ALL_WHOLE - 1, ALL_WHOLE + 1, -SHORT_ALL_WHOLE - 1);
        realsMoved(Check.NEAR, Double.MAX_VALUE, -Float.MAX_VALUE, Double.MAX_VALUE, -Float.MAX_VALUE);
    }

    private static void nearGivesTheEvenOfTwo() {
        check.sentence("of two the even one");
        realsMoved(Check.NEAR, 0.5, 1.5f, 0.0, 2.0f);
        realsMoved(Check.NEAR, 1.5, 0.5f, 2.0, 0.0f);
        realsMoved(Check.NEAR, 2.5, -3.5f, 2.0, -4.0f);
        realsMoved(Check.NEAR, -1.5, -2.5f, -2.0, -2.0f);
        realsMoved(Check.NEAR, 3.5, 4.5f, 4.0, 4.0f);
        realsMoved(Check.NEAR, ALL_WHOLE - 0.5, SHORT_ALL_WHOLE - 0.5f, ALL_WHOLE, SHORT_ALL_WHOLE);
        realsMoved(Check.NEAR, ALL_WHOLE - 1.5, SHORT_ALL_WHOLE - 1.5f, ALL_WHOLE - 2, SHORT_ALL_WHOLE - 2);
    }

    private static void nearGivesMinusZeroBelowZero() {
        check.sentence("(a real below 0 or -0.0 gives -0.0, not 0.0)");
        realsMoved(Check.NEAR, -LEAST, -SHORT_LEAST, -0.0, -0.0f);
        realsMoved(Check.NEAR, -0.25, -0.49999997f, -0.0, -0.0f);
        realsMoved(Check.NEAR, -0.5, -0.5f, -0.0, -0.0f);
        realsMoved(Check.NEAR, -0.0, -0.0f, -0.0, -0.0f);
    }

    private static void leanGoesBySide() {
        check.sentence("LEAN: TILT becomes 1.0 if LENGTH of t is above 0, -1.0 if it is below");
        leaned(LEAST, -SHORT_LEAST, 1.0, -1.0f);
        leaned(-LEAST, SHORT_LEAST, -1.0, 1.0f);
        leaned(INF, -SHORT_INF, 1.0, -1.0f);
        leaned(-INF, SHORT_INF, -1.0, 1.0f);
    }

    private static void leanGivesZerosThemselves() {
        check.sentence("else LENGTH itself; WEIGHT by PULL likewise.");
        leaned(0.0, -0.0f, 0.0, -0.0f);
        leaned(-0.0, 0.0f, -0.0, 0.0f);
    }

    private static void leaned(double length, float pull, double tilt, float weight) {
        PuppetBar x = new PuppetBar();
        Check.put(x, 1, 7.0, 7.0f, 7, LONG_MIN);
        x.move(Check.LEAN, 1, 1);
        x.move(Check.GATHER, 1, 1);
        Check.put(x, 0, length, pull, 9, 9L);
        check.due("LEAN", x.move(Check.LEAN, 0, 0), 0);
        check.dueBar("LEAN by " + length + " and " + pull, x, tilt, weight, 7, LONG_MIN);
        check.dueThread("LEAN", x, 0, length, pull, 9, 9L);
    }

    private static void mirrorGivesTheSignsOfU() {
        check.sentence("MIRROR: LENGTH and PULL of t become such of their amounts, with the signs of those of u");
        movedBy(Check.MIRROR, of(INF, -SHORT_INF, MIN, 1L), of(-LEAST, SHORT_LEAST, 5, 5L),
                of(-INF, SHORT_INF, MIN, 1L));
        movedBy(Check.MIRROR, of(-INF, SHORT_INF, 1, LONG_MIN), of(INF, -SHORT_INF, 5, 5L),
                of(INF, -SHORT_INF, 1, LONG_MIN));
        movedBy(Check.MIRROR, of(-LEAST, 0.0f, -1, -1L), of(-5.0, -5.0f, 5, 5L), of(-LEAST, -0.0f, -1, -1L));
    }

    private static void mirrorTakesTheSignsOfZeros() {
        check.sentence("(0.0 has +, -0.0 has -)");
        movedBy(Check.MIRROR, of(2.0, -2.0f, 1, 1L), of(-0.0, 0.0f, 5, 5L), of(-2.0, 2.0f, 1, 1L));
        movedBy(Check.MIRROR, of(-2.0, 2.0f, 1, 1L), of(0.0, -0.0f, 5, 5L), of(2.0, -2.0f, 1, 1L));
        movedBy(Check.MIRROR, of(0.0, -0.0f, 1, 1L), of(-0.0, 0.0f, 5, 5L), of(-0.0, 0.0f, 1, 1L));
    }

    private static void holdGoesByLowThenByHigh() {
        check.sentence("HOLD: LENGTH of t becomes the greater of it and its LOW;"
                + " then the lesser of that and its HIGH.");
        held(1.0, 1.0, 2.0, 1.0);
        held(2.0, 1.0, 2.0, 2.0);
        held(0.9999999999999999, 1.0, 2.0, 1.0);
        held(2.0000000000000004, 1.0, 2.0, 2.0);
        held(-0.0, 0.0, 1.0, 0.0);
        held(0.0, -1.0, -0.0, -0.0);
        held(5.0, 3.0, 1.0, 1.0);
        held(0.0, 3.0, 1.0, 1.0);
        held(2.0, 3.0, 1.0, 1.0);
        held(INF, -INF, INF, INF);
        held(-INF, -INF, INF, -INF);
        held(0.0, INF, INF, INF);
        held(0.0, -INF, -INF, -INF);
        held(0.0, INF, -INF, -INF);
    }

    private static void held(double length, double low, double high, double want) {
        PuppetBar x = new PuppetBar();
        Check.put(x, 0, length, -9.0f, MIN, LONG_MIN);
        x.set(0, Check.LOW, Check.bits(low));
        x.set(0, Check.HIGH, Check.bits(high));
        String told = "HOLD of " + length + " between " + low + " and " + high;
        check.due(told, x.move(Check.HOLD, 0, 0), Check.bits(length) == Check.bits(want) ? 0 : 1);
        check.dueThread(told, x, 0, want, -9.0f, MIN, LONG_MIN);
        check.dueStops(told, x, 0, low, high);
    }

    private static void stopsAreTheLesserAndTheGreater() {
        check.sentence("STOPS: LOW of t becomes the lesser of the LENGTHS of t and u, HIGH the greater.");
        stopped(0.0, -0.0, -0.0, 0.0);
        stopped(-0.0, 0.0, -0.0, 0.0);
        stopped(INF, -INF, -INF, INF);
        stopped(-INF, INF, -INF, INF);
        stopped(-2.0, -1.0, -2.0, -1.0);
        stopped(LEAST, 0.0, 0.0, LEAST);
        stopped(3.0, 3.0, 3.0, 3.0);
    }

    private static void stopped(double length, double other, double low, double high) {
        PuppetBar x = new PuppetBar();
        x.set(0, Check.LENGTH, Check.bits(length));
        x.set(1, Check.LENGTH, Check.bits(other));
        check.due("STOPS", x.move(Check.STOPS, 0, 1), 0);
        check.dueStops("STOPS of " + length + " and " + other, x, 0, low, high);
        check.dueStops("STOPS leaves u", x, 1, -INF, INF);
        check.dueThread("STOPS leaves the rest", x, 0, length, 0.0f, 0, 0L);
    }

    private static void gatherTakesEachItsWay() {
        check.sentence("GATHER: TILT becomes the greater of it and the amount of LENGTH of t;"
                + " WEIGHT the lesser of it and the amount of PULL;"
                + " COUNT the greater of it and the amount of KNOTS;"
                + " TURN the lesser of it and the amount of TWIST.");
        gathered(of(-0.0, -0.0f, 0, 0L), of(-0.0, -0.0f, 0, 0L), of(0.0, -0.0f, 0, 0L));
        gathered(of(0.0, 0.0f, 0, 0L), of(-0.0, -0.0f, -1, -1L), of(0.0, 0.0f, 1, 0L));
        gathered(of(1.0, 1.0f, 0, 0L), of(-INF, -SHORT_INF, MAX, LONG_MAX), of(INF, 1.0f, MAX, 0L));
        gathered(of(1.0, 1.0f, 0, 0L), of(-0.5, -0.5f, MIN, LONG_MIN), of(1.0, 0.5f, 0, LONG_MIN));
        gathered(of(-1.0, -1.0f, 0, 0L), of(-LEAST, -SHORT_LEAST, MIN + 1, LONG_MIN + 1), of(LEAST, -1.0f, MAX, 0L));
        gathered(of(1.0, 1.0f, 0, 0L), of(-2.0, -SHORT_LEAST, 3, 3L), of(2.0, SHORT_LEAST, 3, 0L));
    }

    /** Leans by what the first has, then gathers the second. */
    private static void gathered(Four leaning, Four gathering, Four want) {
        PuppetBar x = new PuppetBar();
        leaning.putInto(x, 0);
        x.move(Check.LEAN, 0, 0);
        gathering.putInto(x, 1);
        check.due("GATHER", x.move(Check.GATHER, 1, 1), 0);
        check.dueBar("GATHER", x, want.length, want.pull, want.knots, want.twist);
        gathering.dueIn(x, 1, "GATHER leaves t");
    }

    private static void tradeIsOfAllThatTheyHave() {
        check.sentence("TRADE: all that t and u have (LENGTH, PULL, KNOTS, TWIST, LOW, HIGH) changes places.");
        PuppetBar x = new PuppetBar();
        Four one = of(-0.0, SHORT_INF, MIN, LONG_MAX);
        Four other = of(0.0, -SHORT_INF, MAX, LONG_MIN);
        one.putInto(x, 0);
        other.putInto(x, 7);
        x.set(0, Check.LOW, Check.bits(INF));
        x.set(7, Check.HIGH, Check.bits(-0.0));
        check.due("TRADE", x.move(Check.TRADE, 0, 7), 8);
        other.dueIn(x, 0, "TRADE");
        one.dueIn(x, 7, "TRADE");
        check.dueStops("TRADE", x, 0, -INF, -0.0);
        check.dueStops("TRADE", x, 7, INF, INF);
    }

    private static void climbGoesBySide() {
        check.sentence("CLIMB: KNOTS of t is one more if LENGTH is above 0, one less if it is below");
        moved(Check.CLIMB, of(LEAST, -SHORT_LEAST, 0, 0L), of(LEAST, -SHORT_LEAST, 1, -1L));
        moved(Check.CLIMB, of(-LEAST, SHORT_LEAST, 0, 0L), of(-LEAST, SHORT_LEAST, -1, 1L));
        moved(Check.CLIMB, of(INF, -SHORT_INF, -1, 1L), of(INF, -SHORT_INF, 0, 0L));
        moved(Check.CLIMB, of(-INF, SHORT_INF, 1, -1L), of(-INF, SHORT_INF, 0, 0L));
        moved(Check.CLIMB, of(0.0, -0.0f, MAX, LONG_MIN), of(0.0, -0.0f, MAX, LONG_MIN));
        moved(Check.CLIMB, of(-0.0, 0.0f, MIN, LONG_MAX), of(-0.0, 0.0f, MIN, LONG_MAX));
    }

    private static void climbGoesRound() {
        check.sentence("(the greatest goes round to the least); TWIST likewise by PULL.");
        moved(Check.CLIMB, of(1.0, 1.0f, MAX, LONG_MAX), of(1.0, 1.0f, MIN, LONG_MIN));
        moved(Check.CLIMB, of(-1.0, -1.0f, MIN, LONG_MIN), of(-1.0, -1.0f, MAX, LONG_MAX));
        moved(Check.CLIMB, of(1.0, -1.0f, MAX, LONG_MIN), of(1.0, -1.0f, MIN, LONG_MAX));
        moved(Check.CLIMB, of(1.0, 1.0f, 5, MAX), of(1.0, 1.0f, 6, MAX + 1L));
        moved(Check.CLIMB, of(-1.0, -1.0f, 5, MIN), of(-1.0, -1.0f, 4, MIN - 1L));
    }

    private static void halveRoundsToTheNearest() {
        check.sentence("HALVE: LENGTH and PULL of t are half"
                + " (rounded to the nearest, of two the one whose last bit is 0;");
        for (int count = 2; count < 20; count++) {
            int half = count % 4 == 3 ? count / 2 + 1 : count / 2;
            realsMoved(Check.HALVE, count * LEAST, -count * SHORT_LEAST, half * LEAST, -half * SHORT_LEAST);
            realsMoved(Check.HALVE, -count * LEAST, count * SHORT_LEAST, -half * LEAST, half * SHORT_LEAST);
        }
        bitsMoved(Check.HALVE, 0x001FFFFFFFFFFFFFL, 0x00FFFFFF, 0x0010000000000000L, 0x00800000);
        bitsMoved(Check.HALVE, 0x001FFFFFFFFFFFFDL, 0x00FFFFFD, 0x000FFFFFFFFFFFFEL, 0x007FFFFE);
        bitsMoved(Check.HALVE, 0x0010000000000000L, 0x00800000, 0x0008000000000000L, 0x00400000);
        bitsMoved(Check.HALVE, 0x0020000000000000L, 0x01000000, 0x0010000000000000L, 0x00800000);
        bitsMoved(Check.HALVE, 0x0020000000000001L, 0x01000001, 0x0010000000000001L, 0x00800001);
        bitsMoved(Check.HALVE, 0x7FEFFFFFFFFFFFFFL, 0x7F7FFFFF, 0x7FDFFFFFFFFFFFFFL, 0x7EFFFFFF);
        realsMoved(Check.HALVE, INF, -SHORT_INF, INF, -SHORT_INF);
        realsMoved(Check.HALVE, -0.0, 0.0f, -0.0, 0.0f);
    }

    private static void halveOfTheLeastIsZero() {
        check.sentence("of the least above 0: 0.0)");
        realsMoved(Check.HALVE, LEAST, SHORT_LEAST, 0.0, 0.0f);
        realsMoved(Check.HALVE, -LEAST, -SHORT_LEAST, -0.0, -0.0f);
    }

    private static void doubleIsTwice() {
        check.sentence("DOUBLE: twice");
        realsMoved(Check.DOUBLE, LEAST, -SHORT_LEAST, 2 * LEAST, -2 * SHORT_LEAST);
        realsMoved(Check.DOUBLE, -0.0, 0.0f, -0.0, 0.0f);
        bitsMoved(Check.DOUBLE, 0x000FFFFFFFFFFFFFL, 0x007FFFFF, 0x001FFFFFFFFFFFFEL, 0x00FFFFFE);
        bitsMoved(Check.DOUBLE, 0x0008000000000000L, 0x00400000, 0x0010000000000000L, 0x00800000);
        bitsMoved(Check.DOUBLE, 0x0007FFFFFFFFFFFFL, 0x003FFFFF, 0x000FFFFFFFFFFFFEL, 0x007FFFFE);
        bitsMoved(Check.DOUBLE, 0x0010000000000000L, 0x00800000, 0x0020000000000000L, 0x01000000);
        bitsMoved(Check.DOUBLE, 0x7FDFFFFFFFFFFFFFL, 0x7EFFFFFF, 0x7FEFFFFFFFFFFFFFL, 0x7F7FFFFF);
    }

    private static void doubleCanBeTooGreat() {
        check.sentence("(an infinity, when that is too great)");
        bitsMoved(Check.DOUBLE, 0x7FE0000000000000L, 0x7F000000, 0x7FF0000000000000L, 0x7F800000);
        bitsMoved(Check.DOUBLE, 0x7FE0000000000001L, 0x7F000001, 0x7FF0000000000000L, 0x7F800000);
        realsMoved(Check.DOUBLE, Double.MAX_VALUE, -Float.MAX_VALUE, INF, -SHORT_INF);
        realsMoved(Check.DOUBLE, -Double.MAX_VALUE, Float.MAX_VALUE, -INF, SHORT_INF);
        realsMoved(Check.DOUBLE, INF, -SHORT_INF, INF, -SHORT_INF);
    }

    private static void giveIsOfTheWholeBar() {
        check.sentence("GIVE: LENGTH of t becomes the TILT, PULL the WEIGHT, KNOTS the COUNT, TWIST the TURN.");
        PuppetBar x = new PuppetBar();
        Check.put(x, 0, -0.0, -0.0f, 0, 0L);
        x.move(Check.LEAN, 0, 0);
        check.due("GIVE of zeros", x.move(Check.GIVE, 1, 1), 2);
        check.dueThread("GIVE of zeros", x, 1, -0.0, -0.0f, 0, 0L);
        Check.put(x, 0, -INF, -5.0f, MAX, LONG_MIN);
        x.move(Check.LEAN, 0, 0);
        x.move(Check.GATHER, 0, 0);
        check.due("GIVE of the ends", x.move(Check.GIVE, 1, 1), 4);
        check.dueThread("GIVE of the ends", x, 1, INF, -1.0f, MAX, LONG_MIN);
        check.dueStops("GIVE leaves the stops", x, 1, -INF, INF);
        check.dueBar("GIVE leaves the bar", x, INF, -1.0f, MAX, LONG_MIN);
        check.due("GIVE again", x.move(Check.GIVE, 1, 1), 0);
    }

    /** LENGTH, PULL, KNOTS and TWIST of a thread. */
    private record Four(double length, float pull, int knots, long twist) {
        void putInto(PuppetBar x, int t) {
            Check.put(x, t, length, pull, knots, twist);
        }

        void dueIn(PuppetBar x, int t, String when) {
            check.dueThread(when, x, t, length, pull, knots, twist);
        }

        int changesTo(Four then) {
            return (Check.bits(length) == Check.bits(then.length) ? 0 : 1)
                    + (Check.bits(pull) == Check.bits(then.pull) ? 0 : 1)
                    + (knots == then.knots ? 0 : 1) + (twist == then.twist ? 0 : 1);
        }
    }

    private static Four of(double length, float pull, int knots, long twist) {
        return new Four(length, pull, knots, twist);
    }

    private static void moved(int m, Four from, Four want) {
        movedBy(m, from, of(77.0, 77.0f, 77, 77L), want);
    }

    /** Does move m of a thread that has from, with a u that has other, and holds t, u and the count to what is due. */
    private static void movedBy(int m, Four from, Four other, Four want) {
        PuppetBar x = new PuppetBar();
        from.putInto(x, 2);
        other.putInto(x, 5);
        check.due("move " + m + " of " + from + " by " + other, x.move(m, 2, 5), from.changesTo(want));
        want.dueIn(x, 2, "move " + m + " of " + from + " by " + other);
        other.dueIn(x, 5, "move " + m + " leaves u");
        check.dueStops("move " + m, x, 2, -INF, INF);
    }

    private static void realsMoved(int m, double length, float pull, double wantLength, float wantPull) {
        moved(m, of(length, pull, MIN, LONG_MIN), of(wantLength, wantPull, MIN, LONG_MIN));
    }

    private static void bitsMoved(int m, long length, int pull, long wantLength, int wantPull) {
        realsMoved(m, Double.longBitsToDouble(length), Float.intBitsToFloat(pull),
                Double.longBitsToDouble(wantLength), Float.intBitsToFloat(wantPull));
    }
}
