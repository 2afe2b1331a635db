/** Promise 6: string. */
public final class StringTest {
    public static void main(String[] args) {
        Check check = new Check();
        PuppetBar x = new PuppetBar();
        for (int t = 0; t < 8; t++) {
            Check.put(x, t, 3.5, -3.5f, 3, -3L);
            x.set(t, Check.LOW, Check.bits(1.0));
            x.set(t, Check.HIGH, Check.bits(2.0));
            check.due("string(" + t + ") when it is not cut", x.string(t), 7);
            check.due("refused()", x.refused(), 7);
            check.dueThread("a refused string", x, t, 3.5, -3.5f, 3, -3L);
            check.dueStops("a refused string", x, t, 1.0, 2.0);
            x.cut(t);
            check.due("string(" + t + ")", x.string(t), 0);
            check.due("refused()", x.refused(), 0);
            check.dueFirstState("strung anew", x, t);
            check.due("string(" + t + ") again", x.string(t), 7);
        }
        for (int outside : Check.OUTSIDE) {
            check.due("string(" + outside + ")", x.string(outside), 1);
            check.due("refused()", x.refused(), 1);
        }
        x.cut(1);
        x.cut(2);
        check.due("string(2)", x.string(2), 0);
        check.due("the other one stays cut", x.cut(1), 2);
        check.end();
    }
}
