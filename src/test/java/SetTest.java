/** Promise 2: set. */
public final class SetTest {
    private static final Check check = new Check();

    public static void main(String[] args) {
        setsEachPartAlone();
        takesTheLowest32Bits();
        takesEveryNumber();
        refusesWhatIsNoNumber();
        refusesInOrder();
        check.end();
    }

    private static void setsEachPartAlone() {
        for (int t = 0; t < 8; t++) {
            for (int what = 0; what <= 5; what++) {
                PuppetBar x = new PuppetBar();
                check.due("set(" + t + ", " + what + ", 5)", x.set(t, what, 5L), 0);
                check.due("refused()", x.refused(), 0);
                for (int other = 0; other < 8; other++) {
                    for (int part = 0; part <= 5; part++) {
                        long want = other == t && part == what ? 5L : new PuppetBar().get(other, part);
                        check.due("get(" + other + ", " + part + ")", x.get(other, part), want);
                    }
                }
            }
        }
    }

    private static void takesTheLowest32Bits() {
        PuppetBar x = new PuppetBar();
        check.due("PULL with higher bits", x.set(0, Check.PULL, 0x7FF80000_BF800000L), 0);
        check.due("PULL", x.get(0, Check.PULL), Check.bits(-1.0f));
        check.due("KNOTS with higher bits", x.set(0, Check.KNOTS, 0x12345678_80000001L), 0);
        check.due("KNOTS", x.get(0, Check.KNOTS), -2147483647L);
        check.due("PULL, no number by its lowest 32", x.set(0, Check.PULL, 0x00000001_7FC00000L), 6);
        check.due("PULL then", x.get(0, Check.PULL), Check.bits(-1.0f));
        check.due("TWIST of all 64", x.set(0, Check.TWIST, Long.MIN_VALUE), 0);
        check.due("TWIST", x.get(0, Check.TWIST), Long.MIN_VALUE);
    }

    private static void takesEveryNumber() {
        double[] reals = {0.0, -0.0, 1.5, -1.5, Double.MIN_VALUE, -Double.MIN_VALUE, Double.MAX_VALUE,
            -Double.MAX_VALUE, Check.INFINITY, -Check.INFINITY};
        float[] shorts = {0.0f, -0.0f, 1.5f, -1.5f, Float.MIN_VALUE, -Float.MIN_VALUE, Float.MAX_VALUE,
            -Float.MAX_VALUE, Check.SHORT_INFINITY, -Check.SHORT_INFINITY};
        PuppetBar x = new PuppetBar();
        for (int i = 0; i < reals.length; i++) {
            for (int what : new int[] {Check.LENGTH, Check.LOW, Check.HIGH}) {
                check.due("set of " + reals[i], x.set(7, what, Check.bits(reals[i])), 0);
                check.due("get of " + reals[i], x.get(7, what), Check.bits(reals[i]));
            }
            check.due("set of " + shorts[i], x.set(7, Check.PULL, Check.bits(shorts[i])), 0);
            check.due("get of " + shorts[i], x.get(7, Check.PULL), Check.bits(shorts[i]));
        }
    }

    private static void refusesWhatIsNoNumber() {
        long[] none = {0x7FF0000000000001L, 0x7FF8000000000000L, Long.MAX_VALUE, 0xFFF0000000000001L, -1L};
        int[] shortNone = {0x7F800001, 0x7FC00000, Integer.MAX_VALUE, 0xFF800001, -1};
        PuppetBar x = new PuppetBar();
        for (int i = 0; i < none.length; i++) {
            for (int what : new int[] {Check.LENGTH, Check.LOW, Check.HIGH}) {
                check.due("set of no number " + i, x.set(2, what, none[i]), 6);
                check.due("refused()", x.refused(), 6);
            }
            check.due("set of no short number " + i, x.set(2, Check.PULL, shortNone[i]), 6);
            check.due("set of KNOTS to these bits", x.set(1, Check.KNOTS, shortNone[i]), 0);
            check.due("set of TWIST to these bits", x.set(1, Check.TWIST, none[i]), 0);
            check.due("TWIST", x.get(1, Check.TWIST), none[i]);
        }
        check.dueFirstState("what is refused changes nothing", x, 2);
    }

    private static void refusesInOrder() {
        PuppetBar x = new PuppetBar();
        x.cut(4);
        for (int outside : Check.OUTSIDE) {
            check.due("set of no thread " + outside, x.set(outside, 0, -1L), 1);
            check.due("set of no part of no thread", x.set(outside, 6, -1L), 5);
            check.due("set of no part " + outside, x.set(0, outside, -1L), 5);
            check.due("set of no part of a cut thread", x.set(4, outside, -1L), 5);
        }
        check.due("set of part 6", x.set(0, 6, 0L), 5);
        check.due("set of a cut thread", x.set(4, 2, 1L), 2);
        check.due("set of a cut thread to no number", x.set(4, 0, -1L), 2);
        check.due("refused()", x.refused(), 2);
        x.string(4);
        check.dueFirstState("a refused set of a cut thread", x, 4);
    }
}
