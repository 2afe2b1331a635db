/** Promise 8: step. */
public final class StepTest {
    public static void main(String[] args) {
        Check check = new Check();
        PuppetBar x = new PuppetBar();
        Check.put(x, 0, 1.0, 0.0f, 0, 0L);
        for (int i = 1; i <= 40; i++) {
            check.due("step " + i, x.step(Check.CLIMB, 0, 99), i);
        }
        check.due("step 41", x.step(Check.CLIMB, 0, 0), -1);
        check.due("step 42", x.step(Check.CLIMB, 0, 0), -1);
        check.due("none came", x.dance(1), 40);
        check.due("KNOTS", x.get(0, Check.KNOTS), 40L);
        check.due("a step does nothing by itself", x.bar(Check.COUNT), 0L);
        check.due("forget()", x.forget(), 40);

        check.due("whatever it is", x.step(Integer.MIN_VALUE, Integer.MAX_VALUE, -1), 1);
        check.due("whatever it is", x.step(16, 8, 8), 2);
        check.due("forget()", x.forget(), 2);

        // The order in which steps came: HALVE of 3 then DOWN is 1, DOWN of 3 then HALVE is 1.5.
        x.set(1, Check.LENGTH, Check.bits(3.0));
        x.step(Check.HALVE, 1, 0);
        x.step(Check.DOWN, 1, 0);
        x.dance(1);
        check.due("a step comes behind", x.get(1, Check.LENGTH), Check.bits(1.0));
        check.due("a step after a dance", x.step(Check.TRADE, 1, 2), 3);
        x.dance(1);
        check.due("a step keeps its u", x.get(2, Check.LENGTH), Check.bits(0.0));
        check.due("a thread cut later", x.cut(1), 0);
        check.due("ends the dance", x.dance(1), 0);
        check.end();
    }
}
