/** Promise 13: order. */
public final class OrderTest {
    private static final Check check = new Check();

    public static void main(String[] args) {
        goesByLength();
        goesByPullThenKnotsThenTwistThenNumber();
        putsCutThreadsBehind();
        hasEightPlaces();
        check.end();
    }

    private static void goesByLength() {
        double[] lengths = {Check.INFINITY, 0.0, -0.0, 2.0, -2.0, Double.MIN_VALUE, -1.0, -Check.INFINITY};
        int[] places = {7, 4, 3, 6, 1, 5, 2, 0};
        PuppetBar x = new PuppetBar();
        for (int t = 0; t < 8; t++) {
            // All else speaks for the other order, and comes behind LENGTH.
            Check.put(x, t, lengths[t], -places[t], -places[t], -places[t]);
        }
        check.dueOrder("by LENGTH", x, 7, 4, 6, 2, 1, 5, 3, 0);
    }

    private static void goesByPullThenKnotsThenTwistThenNumber() {
        PuppetBar x = new PuppetBar();
        Check.put(x, 0, 1.0, 0.0f, 5, 5L);
        Check.put(x, 1, 1.0, -0.0f, 9, 9L);
        Check.put(x, 2, 1.0, 0.0f, 5, -5L);
        Check.put(x, 3, 1.0, 0.0f, -5, 9L);
        Check.put(x, 4, 1.0, -2.0f, 9, 9L);
        Check.put(x, 5, 1.0, 0.0f, 5, 5L);
        Check.put(x, 6, 1.0, -1.0f, 9, 9L);
        Check.put(x, 7, 1.0, 0.0f, Integer.MIN_VALUE, Long.MAX_VALUE);
        check.dueOrder("by the rest", x, 4, 6, 1, 7, 3, 2, 0, 5);
        x.set(0, Check.TWIST, Long.MAX_VALUE);
        x.set(5, Check.TWIST, Long.MIN_VALUE);
        check.dueOrder("far TWISTS", x, 4, 6, 1, 7, 3, 5, 2, 0);
        x.set(0, Check.LOW, Check.bits(-9.0));
        x.set(0, Check.HIGH, Check.bits(-9.0));
        check.dueOrder("stops do not count", x, 4, 6, 1, 7, 3, 5, 2, 0);
    }

    private static void putsCutThreadsBehind() {
        PuppetBar x = new PuppetBar();
        x.set(2, Check.LENGTH, Check.bits(5.0));
        x.set(5, Check.LENGTH, Check.bits(-5.0));
        x.set(0, Check.LENGTH, Check.bits(9.0));
        x.cut(5);
        x.cut(2);
        x.cut(0);
        check.dueOrder("three cut", x, 1, 3, 4, 6, 7, 0, 2, 5);
        x.string(2);
        check.dueOrder("one strung again", x, 1, 2, 3, 4, 6, 7, 0, 5);
        for (int t = 0; t < 8; t++) {
            x.cut(t);
        }
        check.dueOrder("all cut", x, 0, 1, 2, 3, 4, 5, 6, 7);
    }

    private static void hasEightPlaces() {
        PuppetBar x = new PuppetBar();
        for (int outside : Check.OUTSIDE) {
            check.due("order(" + outside + ")", x.order(outside), -1);
        }
        check.due("order(7)", x.order(7), 7);
    }
}
