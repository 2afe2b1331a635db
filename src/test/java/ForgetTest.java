/** Promise 9: forget. */
public final class ForgetTest {
    public static void main(String[] args) {
        Check check = new Check();
        PuppetBar x = new PuppetBar();
        check.due("forget() of none", x.forget(), 0);
        Check.put(x, 0, 1.0, 0.0f, 0, 0L);
        x.step(Check.CLIMB, 0, 0);
        x.step(Check.CLIMB, 0, 0);
        x.step(Check.CLIMB, 8, 0);
        x.dance(1);
        check.due("forget()", x.forget(), 3);
        check.due("forget() again", x.forget(), 0);
        check.dueDanced("forget() leaves the latest dance", x, 2, 0, 0, 2, 0);
        check.due("KNOTS stay", x.get(0, Check.KNOTS), 2L);
        check.due("dance() of none", x.dance(50), 0);
        check.due("KNOTS stay", x.get(0, Check.KNOTS), 2L);
        check.due("step() is the first one again", x.step(Check.CLIMB, 0, 0), 1);
        check.due("dance()", x.dance(1), 1);
        for (int i = 2; i <= 41; i++) {
            x.step(Check.CLIMB, 0, 0);
        }
        check.due("forget() of a full figure", x.forget(), 40);
        check.due("room again", x.step(Check.CLIMB, 0, 0), 1);
        check.end();
    }
}
