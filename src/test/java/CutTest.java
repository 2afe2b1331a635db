/** Promise 5: cut. */
public final class CutTest {
    public static void main(String[] args) {
        Check check = new Check();
        PuppetBar x = new PuppetBar();
        for (int t = 0; t < 8; t++) {
            check.due("cut(" + t + ")", x.cut(t), 0);
            check.due("refused()", x.refused(), 0);
            check.due("cut(" + t + ") again", x.cut(t), 2);
            check.due("refused()", x.refused(), 2);
            check.due("get of it", x.get(t, Check.HIGH), 0L);
            if (t < 7) {
                check.due("the next one is strung", x.get(t + 1, Check.HIGH), Check.bits(Check.INFINITY));
            }
        }
        for (int outside : Check.OUTSIDE) {
            check.due("cut(" + outside + ")", x.cut(outside), 1);
            check.due("refused()", x.refused(), 1);
        }
        check.end();
    }
}
