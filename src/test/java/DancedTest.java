/** Promise 11: danced. */
public final class DancedTest {
    private static final Check check = new Check();

    public static void main(String[] args) {
        isZeroAheadOfAnyDance();
        countsEachKind();
        tellsTheStepThatWasRefused();
        isOfTheLatestDanceAlone();
        check.end();
    }

    private static void isZeroAheadOfAnyDance() {
        PuppetBar x = new PuppetBar();
        check.dueDanced("ahead of any dance", x, 0, 0, 0, 0, 0);
        Check.put(x, 0, -1.0, -1.0f, -1, -1L);
        x.move(Check.FLIP, 0, 0);
        x.move(Check.FLIP, 8, 0);
        x.step(Check.FLIP, 0, 0);
        x.dance(51);
        check.dueDanced("moves and what is not danced do not count", x, 0, 0, 0, 0, 0);
        for (int what : new int[] {-1, 5, 6, Integer.MIN_VALUE, Integer.MAX_VALUE}) {
            check.due("danced(" + what + ") ahead of any dance", x.danced(what), -1);
        }
    }

    private static void countsEachKind() {
        PuppetBar x = new PuppetBar();
        Check.put(x, 0, 1.5, 0.0f, 0, 0L);
        x.step(Check.DOUBLE, 0, 0);
        x.dance(3);
        check.dueDanced("LENGTHS", x, -1, 3, 0, 0, 0);
        x.forget();
        x.step(Check.CLIMB, 0, 0);
        x.dance(4);
        check.dueDanced("KNOTS", x, -1, 0, 0, 4, 0);
        x.set(0, Check.LENGTH, Check.bits(-0.0));
        x.set(0, Check.PULL, Check.bits(1.0f));
        x.dance(5);
        check.dueDanced("TWISTS", x, -1, 0, 0, 0, 5);
        x.forget();
        x.step(Check.HALVE, 0, 0);
        x.dance(6);
        check.dueDanced("PULLS", x, -1, 0, 6, 0, 0);
        x.forget();
        x.step(Check.TRADE, 0, 1);
        x.dance(50);
        check.dueDanced("to and fro, of both threads", x, -1, 100, 100, 100, 100);
        for (int what : new int[] {-1, 5, 6, Integer.MIN_VALUE, Integer.MAX_VALUE}) {
            check.due("danced(" + what + ")", x.danced(what), -1);
        }
    }

    private static void tellsTheStepThatWasRefused() {
        PuppetBar x = new PuppetBar();
        Check.put(x, 0, 1.0, 1.0f, 0, 0L);
        for (int i = 0; i < 39; i++) {
            x.step(Check.CLIMB, 0, 0);
        }
        x.step(Check.CLIMB, 8, 0);
        x.dance(50);
        check.dueDanced("the last step", x, 39, 0, 0, 39, 39);
        x.forget();
        x.step(16, 0, 0);
        x.dance(1);
        check.dueDanced("the first step", x, 0, 0, 0, 0, 0);
        x.dance(0);
        check.dueDanced("danced no time", x, -1, 0, 0, 0, 0);
    }

    private static void isOfTheLatestDanceAlone() {
        PuppetBar x = new PuppetBar();
        Check.put(x, 0, 1.0, 1.0f, 0, 0L);
        x.step(Check.CLIMB, 0, 0);
        x.dance(2);
        x.move(Check.CLIMB, 0, 0);
        x.move(Check.DOUBLE, 0, 0);
        x.move(Check.CLIMB, 8, 0);
        check.dueDanced("moves do not count", x, -1, 0, 0, 2, 2);
        x.dance(1);
        check.dueDanced("the dance before does not count", x, -1, 0, 0, 1, 1);
        x.forget();
        x.dance(7);
        check.dueDanced("an empty figure", x, -1, 0, 0, 0, 0);
    }
}
