/** Each sentence of the document's Terms that names an edge, but for those of the moves and their refusals. */
public final class TermsEdgesTest {
    private static final Check check = new Check();
    private static final int[] LONG_REALS = {Check.LENGTH, Check.LOW, Check.HIGH};
    private static final int MIN = Integer.MIN_VALUE;
    private static final int MAX = Integer.MAX_VALUE;

    public static void main(String[] args) {
        noNumberNeverComesIn();
        noneIsMade();
        anAmountIsWithoutItsSign();
        theGreaterIsTheOneAbove();
        wholeNumbersHaveFourAndEightBytes();
        theAmountOfTheLeastIsItself();
        threadsAreStrungAtFirst();
        aCutThreadHasNothing();
        theBarAtFirst();
        lengthsChangeByTheirBits();
        eachChangeIsOne();
        aFigureHasAtMost40Steps();
        aStepIsWhateverItIs();
        aDanceGoesInOrderSomeTimesOver();
        theFirstRefusedEndsADance();
        anObjectServesFor512Calls();
        check.end();
    }

    private static void noNumberNeverComesIn() {
        check.sentence("one that is no number never comes in (it is refused by its bits)");
        PuppetBar x = new PuppetBar();
        for (int what : LONG_REALS) {
            for (long sign : new long[] {0L, Long.MIN_VALUE}) {
                check.due("an infinity comes in", x.set(0, what, sign | 0x7FF0000000000000L), 0);
                check.due("it is there", x.get(0, what), sign | 0x7FF0000000000000L);
                for (long above : new long[] {1L, 0x0008000000000000L, 0x000FFFFFFFFFFFFFL}) {
                    check.due("no number", x.set(0, what, sign | 0x7FF0000000000000L | above), 6);
                    check.due("what was there stays", x.get(0, what), sign | 0x7FF0000000000000L);
                }
            }
        }
        for (int sign : new int[] {0, MIN}) {
            check.due("a short infinity comes in", x.set(0, Check.PULL, sign | 0x7F800000), 0);
            check.due("it is there", x.get(0, Check.PULL), sign | 0x7F800000);
            for (int above : new int[] {1, 0x00400000, 0x007FFFFF}) {
                check.due("no short number", x.set(0, Check.PULL, sign | 0x7F800000 | above), 6);
                check.due("what was there stays", x.get(0, Check.PULL), sign | 0x7F800000);
            }
        }
    }

    private static void noneIsMade() {
        check.sentence("and none is made here");
        for (int m = 0; m < 16; m++) {
            for (int i = 0; i < Check.LADDER.length; i++) {
                for (int j = 0; j < Check.LADDER.length; j++) {
                    PuppetBar x = new PuppetBar();
                    Check.put(x, 0, Check.LADDER[i], Check.SHORT_LADDER[j], MAX, Long.MAX_VALUE);
                    Check.put(x, 1, Check.LADDER[j], Check.SHORT_LADDER[i], MIN, Long.MIN_VALUE);
                    x.move(Check.LEAN, 0, 0);
                    x.move(Check.GATHER, 1, 0);
                    x.move(m, 0, 1);
                    dueNumbers("move " + m + " of " + Check.LADDER[i] + " and " + Check.LADDER[j], x);
                }
            }
        }
    }

    private static void dueNumbers(String when, PuppetBar x) {
        for (int t = 0; t < 2; t++) {
            for (int what : LONG_REALS) {
                check.due(when, Double.isNaN(Double.longBitsToDouble(x.get(t, what))) ? 1 : 0, 0);
            }
            check.due(when, Float.isNaN(Float.intBitsToFloat((int) x.get(t, Check.PULL))) ? 1 : 0, 0);
        }
        check.due(when, Double.isNaN(Double.longBitsToDouble(x.bar(Check.TILT))) ? 1 : 0, 0);
        check.due(when, Float.isNaN(Float.intBitsToFloat((int) x.bar(Check.WEIGHT))) ? 1 : 0, 0);
    }

    private static void anAmountIsWithoutItsSign() {
        check.sentence("A real's amount is that without its sign");
        int last = Check.LADDER.length - 1;
        for (int i = 0; i <= last; i++) {
            int amount = Math.max(i, last - i);
            PuppetBar x = new PuppetBar();
            Check.put(x, 0, Check.LADDER[i], Check.SHORT_LADDER[i], 0, 0L);
            x.move(Check.FLIP, 0, 0);
            check.dueThread("FLIP", x, 0, Check.LADDER[amount], Check.SHORT_LADDER[amount], 0, 0L);
        }
    }

    private static void theGreaterIsTheOneAbove() {
        check.sentence("of two reals the greater one is the one above, 0.0 being above -0.0;"
                + " the lesser one the one below");
        for (int i = 0; i < Check.LADDER.length; i++) {
            for (int j = 0; j < Check.LADDER.length; j++) {
                int above = Math.max(i, j);
                int below = Math.min(i, j);
                PuppetBar x = new PuppetBar();
                for (int t = 0; t < 2; t++) {
                    Check.put(x, t, Check.LADDER[i], Check.SHORT_LADDER[i], 0, 0L);
                }
                Check.put(x, 2, Check.LADDER[j], Check.SHORT_LADDER[j], 0, 0L);
                x.move(Check.STOPS, 0, 2);
                check.dueStops("STOPS", x, 0, Check.LADDER[below], Check.LADDER[above]);
                x.move(Check.STRETCH, 0, 2);
                check.dueThread("STRETCH", x, 0, Check.LADDER[above], Check.SHORT_LADDER[above], 0, 0L);
                x.move(Check.EASE, 1, 2);
                check.dueThread("EASE", x, 1, Check.LADDER[below], Check.SHORT_LADDER[below], 0, 0L);
            }
        }
    }

    private static void wholeNumbersHaveFourAndEightBytes() {
        check.sentence("WHOLE numbers have 4 bytes (KNOTS, COUNT) and 8 (TWIST, TURN)");
        PuppetBar x = new PuppetBar();
        for (int knots : new int[] {MIN, MIN + 1, -1, 0, 1, MAX - 1, MAX}) {
            x.set(0, Check.KNOTS, knots);
            check.due("KNOTS", x.get(0, Check.KNOTS), knots);
        }
        for (long twist : new long[] {Long.MIN_VALUE, Long.MIN_VALUE + 1, MIN - 1L, 0L, MAX + 1L, Long.MAX_VALUE}) {
            x.set(0, Check.TWIST, twist);
            check.due("TWIST", x.get(0, Check.TWIST), twist);
        }
        Check.put(x, 1, 0.0, 0.0f, MAX, Long.MIN_VALUE);
        x.move(Check.GATHER, 1, 0);
        check.dueBar("the ends of COUNT and TURN", x, 0.0, 0.0f, MAX, Long.MIN_VALUE);
    }

    private static void theAmountOfTheLeastIsItself() {
        check.sentence("an amount of the least one is itself");
        PuppetBar x = new PuppetBar();
        Check.put(x, 0, 0.0, 0.0f, MIN, Long.MIN_VALUE);
        check.due("FLIP of the least ones", x.move(Check.FLIP, 0, 0), 0);
        check.dueThread("FLIP of the least ones", x, 0, 0.0, 0.0f, MIN, Long.MIN_VALUE);
        x.move(Check.GATHER, 0, 0);
        check.dueBar("GATHER of the least ones", x, 0.0, 0.0f, 0, Long.MIN_VALUE);
        Check.put(x, 0, 0.0, 0.0f, MIN + 1, Long.MIN_VALUE + 1);
        check.due("FLIP of those next to them", x.move(Check.FLIP, 0, 0), 2);
        check.dueThread("FLIP of those next to them", x, 0, 0.0, 0.0f, MAX, Long.MAX_VALUE);
    }

    private static void threadsAreStrungAtFirst() {
        check.sentence("THREADS 0 .. 7 are strung at first, each with LENGTH 0.0, PULL 0.0, KNOTS 0, TWIST 0,"
                + " LOW -infinity, HIGH infinity.");
        PuppetBar x = new PuppetBar();
        for (int t = 0; t < 8; t++) {
            check.dueFirstState("at first", x, t);
            check.due("strung", x.string(t), 7);
        }
        check.due("there is none before", x.string(-1), 1);
        check.due("there is none behind", x.string(8), 1);
    }

    private static void aCutThreadHasNothing() {
        check.sentence("One that is cut has nothing.");
        PuppetBar x = new PuppetBar();
        Check.put(x, 7, 1.0, 2.0f, 3, 4L);
        x.cut(7);
        for (int what = 0; what < 6; what++) {
            check.due("get(7, " + what + ")", x.get(7, what), 0L);
        }
        x.string(7);
        check.dueFirstState("what it had does not come back", x, 7);
    }

    private static void theBarAtFirst() {
        check.sentence("THE BAR has TILT 0.0, WEIGHT 0.0, COUNT 0, TURN 0 at first.");
        PuppetBar x = new PuppetBar();
        check.dueBar("at first", x, 0.0, 0.0f, 0, 0L);
        Check.put(x, 0, -1.0, -1.0f, -1, -1L);
        check.due("it is given as it is", x.move(Check.GIVE, 0, 0), 4);
        check.dueThread("it is given as it is", x, 0, 0.0, 0.0f, 0, 0L);
    }

    private static void lengthsChangeByTheirBits() {
        check.sentence("A MOVE that is done may CHANGE: LENGTHS by their bits, PULLS likewise");
        PuppetBar x = new PuppetBar();
        Check.put(x, 0, -0.0, -0.0f, 0, 0L);
        check.due("-0.0 to 0.0", x.move(Check.FLIP, 0, 0), 2);
        check.due("0.0 to 0.0", x.move(Check.FLIP, 0, 0), 0);
        Check.put(x, 0, Double.MIN_VALUE, 1.0f, 0, 0L);
        x.set(0, Check.LOW, Check.bits(2 * Double.MIN_VALUE));
        check.due("to the next real", x.move(Check.HOLD, 0, 0), 1);
        check.due("an infinity to itself", changedOf(Check.DOUBLE, Check.INFINITY, -Check.SHORT_INFINITY), 0);
        check.due("a zero to itself", changedOf(Check.HALVE, -0.0, 0.0f), 0);
    }

    private static int changedOf(int m, double length, float pull) {
        PuppetBar x = new PuppetBar();
        Check.put(x, 0, length, pull, 0, 0L);
        return x.move(m, 0, 0);
    }

    private static void eachChangeIsOne() {
        check.sentence("KNOTS, TWISTS of all threads, each 1.");
        PuppetBar x = new PuppetBar();
        Check.put(x, 0, 1.0, 1.0f, -9, -9L);
        check.due("TRADE, four of each", x.move(Check.TRADE, 0, 7), 8);
        check.due("KNOTS and TWIST by far", x.move(Check.STRETCH, 7, 0), 2);
        x.set(7, Check.KNOTS, MIN);
        x.set(0, Check.KNOTS, MAX);
        check.due("KNOTS by all there is, LENGTH and PULL", x.move(Check.STRETCH, 7, 0), 1);
        check.due("stops are none of these", x.move(Check.STOPS, 7, 0), 0);
        check.due("the bar is none of these", x.move(Check.LEAN, 7, 0), 0);
        check.due("nor when it gathers", x.move(Check.GATHER, 7, 0), 0);
        Check.put(x, 0, 5.0, 5.0f, 5, 5L);
        Check.put(x, 1, 5.0, 5.0f, 5, 5L);
        x.set(0, Check.LOW, Check.bits(1.0));
        x.set(0, Check.HIGH, Check.bits(2.0));
        check.due("TRADE of stops alone", x.move(Check.TRADE, 0, 1), 0);
        check.dueStops("TRADE of stops alone", x, 1, 1.0, 2.0);
        x.set(1, Check.LOW, Check.bits(6.0));
        x.set(1, Check.HIGH, Check.bits(5.0));
        check.due("HOLD, up and down again", x.move(Check.HOLD, 1, 1), 0);
    }

    private static void aFigureHasAtMost40Steps() {
        check.sentence("A FIGURE is a row of at most 40 STEPS");
        PuppetBar x = new PuppetBar();
        for (int i = 0; i < 39; i++) {
            x.step(Check.FLIP, 0, 0);
        }
        check.due("39 moves", x.dance(1), 39);
        check.due("there is room for one more", x.step(Check.FLIP, 0, 0), 40);
        check.due("40 moves", x.dance(1), 40);
        check.due("and no more", x.step(Check.FLIP, 0, 0), -1);
        check.due("40 moves still", x.dance(1), 40);
    }

    private static void aStepIsWhateverItIs() {
        check.sentence("each a move with a t and a u, whatever they are");
        PuppetBar x = new PuppetBar();
        x.cut(3);
        int[] any = {-1, 16, 8, 3, MIN, MAX};
        for (int i = 0; i < any.length; i++) {
            check.due("step", x.step(any[i], any[any.length - 1 - i], any[i]), i + 1);
            check.due("is not refused", x.refused(), 0);
        }
        check.due("they are all there", x.forget(), any.length);
    }

    private static void aDanceGoesInOrderSomeTimesOver() {
        check.sentence("To DANCE it is to do its moves in order, some times over");
        PuppetBar x = new PuppetBar();
        Check.put(x, 0, 9.0, 9.0f, 0, 0L);
        x.step(Check.HALVE, 0, 0);
        x.step(Check.DOWN, 0, 0);
        x.step(Check.CLIMB, 0, 0);
        check.due("dance(4)", x.dance(4), 12);
        check.dueThread("4, 2, 1, 0", x, 0, 0.0, 0.0f, 3, 3L);
    }

    private static void theFirstRefusedEndsADance() {
        check.sentence("the first one that is refused ends it");
        for (int at = 0; at < 40; at++) {
            PuppetBar x = new PuppetBar();
            Check.put(x, 0, 1.0, 0.0f, 0, 0L);
            for (int i = 0; i < 40; i++) {
                x.step(Check.CLIMB, i == at ? 8 : i > at ? -1 : 0, 0);
            }
            check.due("refused at " + at, x.dance(50), at);
            check.due("KNOTS", x.get(0, Check.KNOTS), at);
        }
    }

    private static void anObjectServesFor512Calls() {
        check.sentence("An object is used for at most 512 calls after it has been made");
        PuppetBar x = new PuppetBar();
        x.set(0, Check.LENGTH, Check.bits(1.0));
        for (int i = 0; i < 40; i++) {
            x.step(Check.CLIMB, 0, 0);
        }
        for (int call = 42; call < 512; call++) {
            check.due("call " + call, x.dance(50), 2000);
        }
        check.due("call 512", x.get(0, Check.KNOTS), 470 * 2000L);
    }
}
