/** Promise 12: bar. */
public final class BarTest {
    public static void main(String[] args) {
        Check check = new Check();
        PuppetBar x = new PuppetBar();
        check.dueBar("at first", x, 0.0, 0.0f, 0, 0L);
        Check.put(x, 0, -7.5, -0.25f, -9, Long.MIN_VALUE);
        x.move(Check.LEAN, 0, 0);
        check.dueBar("after LEAN", x, -1.0, -1.0f, 0, 0L);
        check.due("WEIGHT has its sign", x.bar(Check.WEIGHT), -1082130432L);
        x.move(Check.GATHER, 0, 0);
        check.dueBar("after GATHER", x, 7.5, -1.0f, 9, Long.MIN_VALUE);
        x.cut(0);
        x.string(0);
        x.forget();
        check.dueBar("the bar keeps what it has", x, 7.5, -1.0f, 9, Long.MIN_VALUE);
        for (int what : new int[] {-1, 4, 5, Integer.MIN_VALUE, Integer.MAX_VALUE}) {
            check.due("bar(" + what + ")", x.bar(what), 0L);
        }
        check.end();
    }
}
