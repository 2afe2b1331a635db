/** Each sentence of the promises 1 to 13 that names an edge. */
public final class PromiseEdgesTest {
    private static final Check check = new Check();
    private static final int MIN = Integer.MIN_VALUE;
    private static final int MAX = Integer.MAX_VALUE;
    private static final int CUT = Check.CUT;

    public static void main(String[] args) {
        aNewObject();
        setTakesTheLowest32();
        setRefusesAnotherWhat();
        setRefusesThreads();
        setRefusesNoNumbers();
        getGivesSigns();
        getGives0ForWhatThereIsNot();
        refusedIsOfTheLatest();
        refusedIsOfTheMoveThatEndedADance();
        refusedIs0ForNone();
        cutIsRefused();
        stringIsAsAtFirst();
        stringIsRefused();
        moveTellsHowMany();
        moveIsNoneWhenRefused();
        stepTellsHowMany();
        stepIsNoneAt40();
        forgetTellsHowMany();
        danceTellsHowMany();
        danceIsNoneForOtherTimes();
        dancedTellsTheStep();
        dancedTellsWhatWasChanged();
        dancedIsNone();
        dancedIs0AheadOfAnyDance();
        barIs0ForAnotherWhat();
        orderGoesByLength();
        orderGoesByTheRest();
        orderPutsTheCutBehind();
        orderIsNoneForAnotherK();
        check.end();
    }

    /** A thread 0 that CLIMB changes in KNOTS alone, and a figure of so many such steps. */
    private static PuppetBar climbing(int steps) {
        PuppetBar x = new PuppetBar();
        x.set(0, Check.LENGTH, Check.bits(1.0));
        for (int i = 0; i < steps; i++) {
            x.step(Check.CLIMB, 0, 0);
        }
        return x;
    }

    private static void aNewObject() {
        check.sentence("All threads strung, no figure.");
        PuppetBar x = new PuppetBar();
        check.due("dance(50) of none", x.dance(50), 0);
        check.due("forget() of none", x.forget(), 0);
        for (int t = 0; t < 8; t++) {
            check.due("cut(" + t + ")", x.cut(t), 0);
        }
        check.due("the next object is another", new PuppetBar().cut(0), 0);
    }

    private static void setTakesTheLowest32() {
        check.sentence("(of PULL and KNOTS the lowest 32): 0");
        PuppetBar x = new PuppetBar();
        check.due("PULL below a long that is no number", x.set(0, Check.PULL, 0xFFFFFFFF_3F800000L), 0);
        check.due("PULL", x.get(0, Check.PULL), Check.bits(1.0f));
        check.due("PULL of the 33rd bit alone", x.set(0, Check.PULL, 1L << 32), 0);
        check.due("PULL", x.get(0, Check.PULL), 0L);
        check.due("PULL of the 32nd bit alone", x.set(0, Check.PULL, 1L << 31), 0);
        check.due("PULL", x.get(0, Check.PULL), Check.bits(-0.0f));
        check.due("KNOTS of the 33rd bit alone", x.set(0, Check.KNOTS, 1L << 32), 0);
        check.due("KNOTS", x.get(0, Check.KNOTS), 0L);
        check.due("KNOTS of the 32nd bit alone", x.set(0, Check.KNOTS, 1L << 31), 0);
        check.due("KNOTS", x.get(0, Check.KNOTS), MIN);
        check.due("KNOTS of a long's ends", x.set(0, Check.KNOTS, Long.MAX_VALUE), 0);
        check.due("KNOTS", x.get(0, Check.KNOTS), -1L);
        check.due("all 64 of TWIST", x.set(0, Check.TWIST, 1L << 32), 0);
        check.due("TWIST", x.get(0, Check.TWIST), 1L << 32);
    }

    private static void setRefusesAnotherWhat() {
        check.sentence("a refusal: 5 for another what");
        PuppetBar x = Check.withOneCut();
        for (int what : new int[] {-1, 6, 7, MIN, MAX}) {
            check.due("set(0, " + what + ", 0)", x.set(0, what, 0L), 5);
            check.due("refused()", x.refused(), 5);
            check.due("ahead of 1", x.set(8, what, 0L), 5);
            check.due("ahead of 2", x.set(CUT, what, 0L), 5);
            check.due("ahead of 6", x.set(0, what, -1L), 5);
        }
        check.due("the first what", x.set(0, 0, 0L), 0);
        check.due("the last what", x.set(0, 5, 0L), 0);
    }

    private static void setRefusesThreads() {
        check.sentence("then 1, 2");
        PuppetBar x = Check.withOneCut();
        for (int what = 0; what < 6; what++) {
            for (int t : Check.OUTSIDE) {
                check.due("no thread, ahead of 6", x.set(t, what, -1L), 1);
                check.due("refused()", x.refused(), 1);
            }
            check.due("a cut one, ahead of 6", x.set(CUT, what, -1L), 2);
            check.due("refused()", x.refused(), 2);
            check.due("the first thread", x.set(0, what, 0L), 0);
            check.due("the last thread", x.set(7, what, 0L), 0);
        }
        x.string(CUT);
        check.dueFirstState("nothing came in while it was cut", x, CUT);
    }

    private static void setRefusesNoNumbers() {
        check.sentence("then 6 when they are no number's (0, 1, 4, 5)");
        PuppetBar x = new PuppetBar();
        for (int what = 0; what < 6; what++) {
            boolean isReal = what != Check.KNOTS && what != Check.TWIST;
            check.due("set(7, " + what + ", -1)", x.set(7, what, -1L), isReal ? 6 : 0);
            check.due("refused()", x.refused(), isReal ? 6 : 0);
        }
        check.due("a long's none is no PULL's", x.set(7, Check.PULL, 0x7FF8000000000000L), 0);
        check.due("a PULL's none is no LENGTH's", x.set(7, Check.LENGTH, 0x7FC00000L), 0);
        check.due("nor one above", x.set(7, Check.LOW, 0x00000000_FFFFFFFFL), 0);
    }

    private static void getGivesSigns() {
        check.sentence("(of PULL and KNOTS as an int, with its sign)");
        PuppetBar x = new PuppetBar();
        x.set(0, Check.PULL, 0x80000000L);
        check.due("PULL -0.0", x.get(0, Check.PULL), -2147483648L);
        x.set(0, Check.PULL, 0xFF800000L);
        check.due("PULL -infinity", x.get(0, Check.PULL), -8388608L);
        x.set(0, Check.PULL, 0x7F800000L);
        check.due("PULL infinity", x.get(0, Check.PULL), 2139095040L);
        x.set(0, Check.KNOTS, 0xFFFFFFFFL);
        check.due("KNOTS -1", x.get(0, Check.KNOTS), -1L);
        x.set(0, Check.KNOTS, 0x80000000L);
        check.due("KNOTS, the least", x.get(0, Check.KNOTS), -2147483648L);
        x.set(0, Check.KNOTS, 0x7FFFFFFFL);
        check.due("KNOTS, the greatest", x.get(0, Check.KNOTS), 2147483647L);
    }

    private static void getGives0ForWhatThereIsNot() {
        check.sentence("0 for what there is not (see refused()).");
        PuppetBar x = Check.withOneCut();
        for (int t : Check.OUTSIDE) {
            check.due("get(" + t + ", 5)", x.get(t, 5), 0L);
            check.due("refused()", x.refused(), 1);
        }
        check.due("get of a cut one", x.get(CUT, 5), 0L);
        check.due("refused()", x.refused(), 2);
        for (int what : new int[] {-1, 6, MIN, MAX}) {
            check.due("get(0, " + what + ")", x.get(0, what), 0L);
            check.due("refused()", x.refused(), 5);
        }
        check.due("get of what there is", x.get(7, 5), Check.bits(Check.INFINITY));
        check.due("refused()", x.refused(), 0);
    }

    private static void refusedIsOfTheLatest() {
        check.sentence("The refusal of the latest set(), get(), move(), cut(), string() or dance()");
        PuppetBar x = new PuppetBar();
        x.set(0, 6, 0L);
        check.due("of set()", x.refused(), 5);
        x.get(8, 0);
        check.due("of get()", x.refused(), 1);
        x.move(Check.STOPS, 0, -1);
        check.due("of move()", x.refused(), 3);
        x.cut(-1);
        check.due("of cut()", x.refused(), 1);
        x.string(0);
        check.due("of string()", x.refused(), 7);
        x.step(Check.STOPS, 0, 8);
        check.due("not of step()", x.refused(), 7);
        x.dance(1);
        check.due("of dance()", x.refused(), 3);
        x.forget();
        x.danced(5);
        x.bar(4);
        x.order(8);
        check.due("not of the others", x.refused(), 3);
    }

    private static void refusedIsOfTheMoveThatEndedADance() {
        check.sentence("(that of the move that ended it)");
        int[][] steps = {{1, Check.FLIP, 8, 0}, {2, Check.FLIP, CUT, 0}, {3, Check.TRADE, 0, 8},
            {4, Check.TRADE, 0, CUT}, {5, 16, 8, 8}};
        for (int[] step : steps) {
            PuppetBar x = Check.withOneCut();
            x.step(Check.FLIP, 0, 0);
            x.step(step[1], step[2], step[3]);
            x.step(step[0] == 5 ? Check.FLIP : 16, 8, 0);
            x.dance(50);
            check.due("ended by " + step[0], x.refused(), step[0]);
        }
    }

    private static void refusedIs0ForNone() {
        check.sentence("0 none.");
        PuppetBar x = new PuppetBar();
        check.due("at first", x.refused(), 0);
        x.cut(8);
        x.set(0, 0, 0L);
        check.due("set()", x.refused(), 0);
        x.cut(8);
        x.get(0, 0);
        check.due("get()", x.refused(), 0);
        x.cut(8);
        x.move(Check.FLIP, 0, 8);
        check.due("move()", x.refused(), 0);
        x.cut(8);
        x.cut(0);
        check.due("cut()", x.refused(), 0);
        x.cut(8);
        x.string(0);
        check.due("string()", x.refused(), 0);
        x.cut(8);
        x.dance(50);
        check.due("dance()", x.refused(), 0);
    }

    private static void cutIsRefused() {
        check.sentence("Thread t is cut: 0; 1, 2 refused.");
        PuppetBar x = new PuppetBar();
        for (int t = 0; t < 8; t++) {
            check.due("cut(" + t + ")", x.cut(t), 0);
            check.due("cut(" + t + ") again", x.cut(t), 2);
            check.due("refused()", x.refused(), 2);
        }
        for (int t : Check.OUTSIDE) {
            check.due("cut(" + t + ")", x.cut(t), 1);
            check.due("refused()", x.refused(), 1);
        }
    }

    private static void stringIsAsAtFirst() {
        check.sentence("Thread t is strung as at first: 0");
        for (int t = 0; t < 8; t++) {
            PuppetBar x = new PuppetBar();
            Check.put(x, t, -0.0, -0.0f, MIN, Long.MIN_VALUE);
            x.set(t, Check.LOW, Check.bits(-0.0));
            x.set(t, Check.HIGH, Check.bits(-0.0));
            x.cut(t);
            check.due("string(" + t + ")", x.string(t), 0);
            check.dueFirstState("strung anew", x, t);
        }
    }

    private static void stringIsRefused() {
        check.sentence("refused: 1, and 7 when it is not cut.");
        PuppetBar x = new PuppetBar();
        for (int t = 0; t < 8; t++) {
            x.set(t, Check.KNOTS, t + 1);
            check.due("string(" + t + ")", x.string(t), 7);
            check.due("refused()", x.refused(), 7);
            check.due("what it has stays", x.get(t, Check.KNOTS), t + 1);
        }
        for (int t : Check.OUTSIDE) {
            check.due("string(" + t + ")", x.string(t), 1);
            check.due("refused()", x.refused(), 1);
        }
        x.cut(7);
        check.due("a cut one", x.string(7), 0);
        check.due("twice", x.string(7), 7);
    }

    private static void moveTellsHowMany() {
        check.sentence("Does a move: how many things it CHANGED");
        PuppetBar x = new PuppetBar();
        check.due("none", x.move(Check.TRADE, 0, 7), 0);
        Check.put(x, 0, -0.0, 0.0f, 0, 0L);
        check.due("one", x.move(Check.FLIP, 0, 0), 1);
        Check.put(x, 0, -1.0, -1.0f, -1, -1L);
        check.due("all of one", x.move(Check.FLIP, 0, 0), 4);
        check.due("all of two", x.move(Check.TRADE, 0, 7), 8);
        check.due("the one before does not count", x.move(Check.FLIP, 0, 0), 0);
    }

    private static void moveIsNoneWhenRefused() {
        check.sentence("NONE when it is refused.");
        PuppetBar x = Check.withOneCut();
        check.due("1", x.move(Check.FLIP, 8, 0), PuppetBar.NONE);
        check.due("2", x.move(Check.FLIP, CUT, 0), PuppetBar.NONE);
        check.due("3", x.move(Check.EASE, 0, 8), PuppetBar.NONE);
        check.due("4", x.move(Check.EASE, 0, CUT), PuppetBar.NONE);
        check.due("5", x.move(16, 0, 0), PuppetBar.NONE);
        check.due("NONE", PuppetBar.NONE, -1);
    }

    private static void stepTellsHowMany() {
        check.sentence("A STEP comes behind the figure: how many there are");
        PuppetBar x = new PuppetBar();
        x.set(0, Check.LENGTH, Check.bits(-1.0));
        check.due("the first", x.step(Check.CLIMB, 0, 0), 1);
        check.due("the second", x.step(Check.FLIP, 0, 0), 2);
        x.dance(1);
        check.due("behind, not ahead", x.get(0, Check.KNOTS), 1L);
        for (int i = 3; i <= 40; i++) {
            check.due("step " + i, x.step(Check.CLIMB, 0, 0), i);
        }
        x.dance(1);
        check.due("each of them", x.get(0, Check.KNOTS), 1L + 1L + 38L);
    }

    private static void stepIsNoneAt40() {
        check.sentence("NONE, and none comes, when there are 40.");
        PuppetBar x = climbing(40);
        for (int i = 0; i < 3; i++) {
            check.due("one more", x.step(Check.DOUBLE, 0, 0), PuppetBar.NONE);
        }
        check.due("dance(1)", x.dance(1), 40);
        check.due("all 40 are CLIMB", x.get(0, Check.KNOTS), 40L);
        check.due("none is DOUBLE", x.get(0, Check.LENGTH), Check.bits(1.0));
        check.due("forget()", x.forget(), 40);
        check.due("then there is room", x.step(Check.DOUBLE, 0, 0), 1);
    }

    private static void forgetTellsHowMany() {
        check.sentence("The figure is empty: how many STEPS it had.");
        PuppetBar x = new PuppetBar();
        check.due("of none", x.forget(), 0);
        for (int steps : new int[] {1, 39, 40}) {
            PuppetBar y = climbing(steps);
            check.due("of " + steps, y.forget(), steps);
            check.due("again", y.forget(), 0);
            check.due("nothing to dance", y.dance(50), 0);
            check.due("nothing was danced", y.get(0, Check.KNOTS), 0L);
        }
    }

    private static void danceTellsHowMany() {
        check.sentence("The figure is danced n times: how many moves were done.");
        for (int n : new int[] {0, 1, 49, 50}) {
            check.due("dance(" + n + ") of none", climbing(0).dance(n), 0);
            for (int steps : new int[] {1, 39, 40}) {
                PuppetBar x = climbing(steps);
                check.due("dance(" + n + ") of " + steps, x.dance(n), n * steps);
                check.due("KNOTS", x.get(0, Check.KNOTS), n * steps);
            }
        }
        PuppetBar x = climbing(2);
        x.step(Check.CLIMB, 8, 0);
        check.due("one that is refused is not done", x.dance(50), 2);
        check.due("no time, no refusal", x.dance(0), 0);
        check.due("refused()", x.refused(), 0);
    }

    private static void danceIsNoneForOtherTimes() {
        check.sentence("NONE, and nothing is done (refused() is 0, danced() as it was), if n is not 0 .. 50.");
        for (int n : new int[] {-1, 51, 52, MIN, MAX}) {
            PuppetBar x = climbing(2);
            x.step(Check.CLIMB, 8, 0);
            x.dance(1);
            long[] before = Check.stateOf(x);
            x.cut(8);
            check.due("dance(" + n + ")", x.dance(n), PuppetBar.NONE);
            check.due("refused()", x.refused(), 0);
            check.dueDanced("as it was", x, 2, 0, 0, 2, 0);
            check.dueState("after dance(" + n + ")", x, before);
            check.due("the figure stays", x.forget(), 3);

            PuppetBar y = climbing(2);
            check.due("dance(" + n + ") ahead of any", y.dance(n), PuppetBar.NONE);
            check.dueDanced("as it was at first", y, 0, 0, 0, 0, 0);
            check.due("nothing is done", y.get(0, Check.KNOTS), 0L);
        }
    }

    private static void dancedTellsTheStep() {
        check.sentence("Of the latest dance: the STEP (from 0 on) that was refused (0)");
        for (int at : new int[] {0, 1, 38, 39}) {
            PuppetBar x = climbing(at);
            x.step(16, 0, 0);
            x.dance(50);
            check.due("refused at " + at, x.danced(0), at);
            x.forget();
            x.step(Check.CLIMB, 0, 0);
            x.dance(1);
            check.due("of the latest alone", x.danced(0), PuppetBar.NONE);
        }
    }

    private static void dancedTellsWhatWasChanged() {
        check.sentence("what was CHANGED: LENGTHS (1), PULLS (2), KNOTS (3), TWISTS (4)");
        PuppetBar x = new PuppetBar();
        Check.put(x, 0, -1.0, -1.0f, 0, 0L);
        for (int i = 0; i < 40; i++) {
            x.step(Check.TRADE, 0, 1);
        }
        x.dance(50);
        check.dueDanced("LENGTHS and PULLS, to and fro", x, -1, 4000, 4000, 0, 0);
        Check.put(x, 1, -1.0, -1.0f, 7, 0L);
        x.dance(1);
        check.dueDanced("of the latest alone", x, -1, 0, 0, 80, 0);
        x.move(Check.TRADE, 0, 1);
        check.dueDanced("a move does not count", x, -1, 0, 0, 80, 0);
        x.set(0, Check.PULL, Check.bits(0.0f));
        x.forget();
        x.step(Check.CLIMB, 1, 0);
        x.step(Check.FLIP, 0, 0);
        x.step(Check.CLIMB, 0, 0);
        x.step(Check.CLIMB, 8, 0);
        x.dance(50);
        check.dueDanced("what came ahead of the refusal", x, 3, 1, 0, 2, 1);
        x.dance(0);
        check.dueDanced("none in no time", x, -1, 0, 0, 0, 0);
    }

    private static void dancedIsNone() {
        check.sentence("NONE of 0 without one that was refused, and for another what");
        PuppetBar x = climbing(1);
        for (int n : new int[] {0, 1, 50}) {
            x.dance(n);
            check.due("danced(0) after dance(" + n + ")", x.danced(0), PuppetBar.NONE);
        }
        for (int what : new int[] {-1, 5, 6, MIN, MAX}) {
            check.due("danced(" + what + ")", x.danced(what), PuppetBar.NONE);
            check.due("danced(" + what + ") ahead of any dance", new PuppetBar().danced(what), PuppetBar.NONE);
        }
        check.due("the last what", x.danced(4), 0);
    }

    private static void dancedIs0AheadOfAnyDance() {
        check.sentence("0 ahead of any dance.");
        PuppetBar x = climbing(1);
        x.move(Check.CLIMB, 0, 0);
        x.move(Check.CLIMB, 8, 0);
        check.dueDanced("moves are no dance", x, 0, 0, 0, 0, 0);
        x.dance(-1);
        x.dance(51);
        check.dueDanced("what is not danced is none", x, 0, 0, 0, 0, 0);
    }

    private static void barIs0ForAnotherWhat() {
        check.sentence("Of the bar the bits of TILT (0), WEIGHT (1), COUNT (2), TURN (3); 0 for another what.");
        PuppetBar x = new PuppetBar();
        Check.put(x, 0, -5.0, -5.0f, MAX, Long.MIN_VALUE);
        x.move(Check.LEAN, 0, 0);
        x.move(Check.GATHER, 0, 0);
        check.due("TILT", x.bar(0), Check.bits(5.0));
        check.due("WEIGHT", x.bar(1), -1082130432L);
        check.due("COUNT", x.bar(2), MAX);
        check.due("TURN", x.bar(3), Long.MIN_VALUE);
        for (int what : new int[] {-1, 4, 5, MIN, MAX}) {
            check.due("bar(" + what + ")", x.bar(what), 0L);
        }
        Check.put(x, 0, -0.0, -0.0f, 0, 0L);
        x.move(Check.LEAN, 0, 0);
        check.due("TILT -0.0", x.bar(0), Long.MIN_VALUE);
        check.due("WEIGHT -0.0", x.bar(1), MIN);
    }

    private static void orderGoesByLength() {
        check.sentence("of those that are strung the lesser LENGTH first (-0.0 ahead of 0.0)");
        double[] fromAbove = {Check.INFINITY, Double.MAX_VALUE, Double.MIN_VALUE, 0.0, -0.0, -Double.MIN_VALUE,
            -Double.MAX_VALUE, -Check.INFINITY};
        PuppetBar x = new PuppetBar();
        for (int t = 0; t < 8; t++) {
            Check.put(x, t, fromAbove[t], t, t, t);
        }
        check.dueOrder("LENGTHS from above", x, 7, 6, 5, 4, 3, 2, 1, 0);
    }

    private static void orderGoesByTheRest() {
        check.sentence("then the lesser PULL, KNOTS, TWIST, number");
        PuppetBar x = new PuppetBar();
        check.dueOrder("all alike: by number", x, 0, 1, 2, 3, 4, 5, 6, 7);
        Check.put(x, 0, 0.0, Check.SHORT_INFINITY, MIN, Long.MIN_VALUE);
        Check.put(x, 1, 0.0, 0.0f, MAX, Long.MIN_VALUE);
        Check.put(x, 2, 0.0, 0.0f, MIN, Long.MAX_VALUE);
        Check.put(x, 3, 0.0, 0.0f, MIN, Long.MIN_VALUE);
        Check.put(x, 4, 0.0, -0.0f, MAX, Long.MAX_VALUE);
        Check.put(x, 5, 0.0, -Float.MIN_VALUE, MAX, Long.MAX_VALUE);
        Check.put(x, 6, 0.0, -Check.SHORT_INFINITY, MAX, Long.MAX_VALUE);
        Check.put(x, 7, 0.0, 0.0f, MIN, Long.MIN_VALUE);
        check.dueOrder("by all", x, 6, 5, 4, 3, 7, 2, 1, 0);
    }

    private static void orderPutsTheCutBehind() {
        check.sentence("those that are cut behind them, by number");
        PuppetBar x = new PuppetBar();
        for (int t = 0; t < 8; t++) {
            x.set(t, Check.LENGTH, Check.bits(t == 2 ? Check.INFINITY : -t));
        }
        x.cut(7);
        x.cut(0);
        x.cut(5);
        check.dueOrder("three cut", x, 6, 4, 3, 1, 2, 0, 5, 7);
        x.string(5);
        check.dueOrder("one strung again", x, 6, 4, 3, 1, 5, 2, 0, 7);
        for (int t = 0; t < 8; t++) {
            x.cut(t);
        }
        check.dueOrder("all cut", x, 0, 1, 2, 3, 4, 5, 6, 7);
        x.string(7);
        check.dueOrder("all but one cut", x, 7, 0, 1, 2, 3, 4, 5, 6);
    }

    private static void orderIsNoneForAnotherK() {
        check.sentence("NONE for another k.");
        PuppetBar x = new PuppetBar();
        for (int k : Check.OUTSIDE) {
            check.due("order(" + k + ")", x.order(k), PuppetBar.NONE);
        }
        check.due("order(0)", x.order(0), 0);
        check.due("order(7)", x.order(7), 7);
        for (int t = 0; t < 8; t++) {
            x.cut(t);
        }
        check.due("order(8) of cut ones", x.order(8), PuppetBar.NONE);
        check.due("order(-1) of cut ones", x.order(-1), PuppetBar.NONE);
    }
}
