/** Promise 4: refused. */
public final class RefusedTest {
    private static final Check check = new Check();

    public static void main(String[] args) {
        isThatOfEachKindOfCall();
        isLeftAloneByTheOtherCalls();
        isThatOfTheMoveThatEndedADance();
        check.end();
    }

    private static void isThatOfEachKindOfCall() {
        PuppetBar x = new PuppetBar();
        x.set(0, 0, -1L);
        check.due("after set", x.refused(), 6);
        x.get(8, 0);
        check.due("after get", x.refused(), 1);
        x.string(0);
        check.due("after string", x.refused(), 7);
        x.move(Check.TRADE, 0, 8);
        check.due("after move", x.refused(), 3);
        x.cut(0);
        check.due("after a cut that is done", x.refused(), 0);
        x.cut(0);
        check.due("after cut", x.refused(), 2);
        check.due("asked again", x.refused(), 2);
        x.string(0);
        check.due("after a string that is done", x.refused(), 0);
        x.move(16, 0, 0);
        check.due("after no such move", x.refused(), 5);
        x.move(Check.FLIP, 0, 8);
        check.due("after a move that is done", x.refused(), 0);
        x.get(-1, 0);
        x.set(0, 0, 0L);
        check.due("after a set that is done", x.refused(), 0);
        x.set(0, 0, -1L);
        x.get(0, 0);
        check.due("after a get that is done", x.refused(), 0);
    }

    private static void isLeftAloneByTheOtherCalls() {
        PuppetBar x = new PuppetBar();
        x.string(0);
        x.step(99, 99, 99);
        check.due("after step", x.refused(), 7);
        x.forget();
        check.due("after forget", x.refused(), 7);
        x.danced(0);
        x.danced(9);
        check.due("after danced", x.refused(), 7);
        x.bar(0);
        x.bar(9);
        check.due("after bar", x.refused(), 7);
        x.order(0);
        x.order(9);
        check.due("after order", x.refused(), 7);
    }

    private static void isThatOfTheMoveThatEndedADance() {
        PuppetBar x = new PuppetBar();
        x.cut(6);
        int[][] steps = {{16, 8, 8, 5}, {0, 8, 0, 1}, {0, 6, 0, 2}, {1, 0, 8, 3}, {1, 0, 6, 4}};
        for (int[] step : steps) {
            x.forget();
            x.step(Check.FLIP, 0, 0);
            x.step(step[0], step[1], step[2]);
            x.step(Check.FLIP, 9, 0);
            x.dance(2);
            check.due("after a dance that ended by " + step[3], x.refused(), step[3]);
        }
        x.dance(51);
        check.due("after dance(51)", x.refused(), 0);
        x.string(0);
        x.dance(-1);
        check.due("after dance(-1)", x.refused(), 0);
        x.string(0);
        x.dance(0);
        check.due("after dance(0)", x.refused(), 0);
        x.forget();
        x.step(Check.FLIP, 0, 0);
        x.string(0);
        x.dance(3);
        check.due("after a dance that none ended", x.refused(), 0);
    }
}
