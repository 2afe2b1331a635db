/** Promise 1: all threads strung, no figure. */
public final class NewObjectTest {
    public static void main(String[] args) {
        Check check = new Check();
        PuppetBar x = new PuppetBar();
        check.due("refused() at first", x.refused(), 0);
        check.due("forget() at first", x.forget(), 0);
        check.due("dance(50) without a figure", new PuppetBar().dance(50), 0);
        check.dueDanced("at first", x, 0, 0, 0, 0, 0);
        check.dueBar("at first", x, 0.0, 0.0f, 0, 0L);
        for (int t = 0; t < 8; t++) {
            check.dueFirstState("at first", x, t);
            check.due("refused() of thread " + t, x.refused(), 0);
            check.due("order(" + t + ") at first", x.order(t), t);
            check.due("string(" + t + ") at first", x.string(t), 7);
        }
        PuppetBar y = new PuppetBar();
        y.set(3, Check.KNOTS, 7);
        y.step(0, 0, 0);
        check.due("another object's KNOTS", x.get(3, Check.KNOTS), 0);
        check.due("another object's figure", x.forget(), 0);
        check.end();
    }
}
