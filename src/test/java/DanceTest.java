/** Promise 10: dance. */
public final class DanceTest {
    private static final Check check = new Check();

    public static void main(String[] args) {
        dancesTimesOver();
        endsAtARefusal();
        canEndItselfLater();
        refusesOtherTimes();
        check.end();
    }

    private static void dancesTimesOver() {
        PuppetBar x = new PuppetBar();
        Check.put(x, 0, 1.0, -1.0f, 0, 0L);
        x.step(Check.CLIMB, 0, 0);
        check.due("dance(0)", x.dance(0), 0);
        check.due("KNOTS after dance(0)", x.get(0, Check.KNOTS), 0L);
        check.due("dance(1)", x.dance(1), 1);
        check.due("dance(50)", x.dance(50), 50);
        check.due("KNOTS", x.get(0, Check.KNOTS), 51L);
        check.due("TWIST", x.get(0, Check.TWIST), -51L);
        for (int i = 1; i < 40; i++) {
            x.step(Check.CLIMB, 0, 0);
        }
        check.due("dance(50) of 40 steps", x.dance(50), 2000);
        check.due("KNOTS", x.get(0, Check.KNOTS), 2051L);
        check.due("what changes nothing is done too", done(Check.FLIP, 5), 5);
    }

    private static int done(int m, int n) {
        PuppetBar x = new PuppetBar();
        x.step(m, 0, 0);
        return x.dance(n);
    }

    private static void endsAtARefusal() {
        PuppetBar x = new PuppetBar();
        Check.put(x, 0, 1.0, 0.0f, 0, 0L);
        x.step(Check.CLIMB, 0, 0);
        x.step(Check.CLIMB, 0, 0);
        x.step(Check.STRETCH, 0, 8);
        x.step(Check.CLIMB, 0, 0);
        check.due("dance(50) that is ended", x.dance(50), 2);
        check.due("refused()", x.refused(), 3);
        check.due("what was done stays", x.get(0, Check.KNOTS), 2L);
        check.due("dance(0) has no refusal", x.dance(0), 0);
        check.due("refused()", x.refused(), 0);
        x.forget();
        x.step(-1, 0, 0);
        check.due("dance(1) refused at once", x.dance(1), 0);
        check.due("refused()", x.refused(), 5);
    }

    /** Moves cannot cut a thread, so a figure is either refused the first time or never; each dance looks anew. */
    private static void canEndItselfLater() {
        PuppetBar x = new PuppetBar();
        x.step(Check.TRADE, 0, 1);
        check.due("dance(3)", x.dance(3), 3);
        x.cut(1);
        check.due("dance(3) with u cut", x.dance(3), 0);
        check.due("refused()", x.refused(), 4);
        x.string(1);
        check.due("dance(3) strung again", x.dance(3), 3);
    }

    private static void refusesOtherTimes() {
        PuppetBar x = new PuppetBar();
        Check.put(x, 0, 1.0, 0.0f, 0, 0L);
        x.step(Check.CLIMB, 0, 0);
        x.step(Check.CLIMB, 8, 0);
        x.dance(2);
        for (int n : new int[] {-1, 51, Integer.MIN_VALUE, Integer.MAX_VALUE}) {
            x.string(0);
            check.due("dance(" + n + ")", x.dance(n), -1);
            check.due("refused()", x.refused(), 0);
            check.dueDanced("after dance(" + n + ")", x, 1, 0, 0, 1, 0);
            check.due("nothing is done", x.get(0, Check.KNOTS), 1L);
        }
    }
}
