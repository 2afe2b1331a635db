/** Promise 3: get. */
public final class GetTest {
    public static void main(String[] args) {
        Check check = new Check();
        PuppetBar x = new PuppetBar();
        Check.put(x, 5, -2.5, -0.5f, -3, -4L);
        x.set(5, Check.LOW, Check.bits(-7.0));
        x.set(5, Check.HIGH, Check.bits(-0.0));
        check.dueThread("what was set", x, 5, -2.5, -0.5f, -3, -4L);
        check.dueStops("what was set", x, 5, -7.0, -0.0);
        check.due("PULL with its sign", x.get(5, Check.PULL), -1090519040L);
        check.due("KNOTS with its sign", x.get(5, Check.KNOTS), -3L);
        check.due("refused()", x.refused(), 0);

        x.cut(5);
        for (int what = 0; what <= 5; what++) {
            check.due("get(5, " + what + ") of a cut thread", x.get(5, what), 0L);
            check.due("refused()", x.refused(), 2);
        }
        for (int outside : Check.OUTSIDE) {
            check.due("get of no thread " + outside, x.get(outside, 4), 0L);
            check.due("refused()", x.refused(), 1);
            check.due("get of no part " + outside, x.get(0, outside), 0L);
            check.due("refused()", x.refused(), 5);
            check.due("get of no part of no thread", x.get(outside, outside), 0L);
            check.due("refused()", x.refused(), 5);
            check.due("get of no part of a cut thread", x.get(5, outside), 0L);
            check.due("refused()", x.refused(), 5);
        }
        check.due("get(0, 6)", x.get(0, 6), 0L);
        check.due("refused()", x.refused(), 5);
        check.due("get(0, 5)", x.get(0, 5), Check.bits(Check.INFINITY));
        check.due("refused()", x.refused(), 0);
        check.end();
    }
}
