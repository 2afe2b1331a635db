/** Runs of some 500 calls, the same ones every time, held against the Model answer by answer. */
public final class ModelTest {
    private static final int RUNS = 6000;
    /** With the steps ahead, refused() behind each round and the state at the end, a run keeps to its 512 calls. */
    private static final int ROUNDS = 170;
    private static final long[] LENGTHS = {0L, 1L, 2L, 3L, 0x000FFFFFFFFFFFFFL, 0x0010000000000000L,
        0x0010000000000001L, 0x001FFFFFFFFFFFFFL, 0x0020000000000000L, 0x3FDFFFFFFFFFFFFFL, 0x3FE0000000000000L,
        0x3FE0000000000001L, 0x3FEFFFFFFFFFFFFFL, 0x3FF0000000000000L, 0x3FF8000000000000L, 0x4004000000000000L,
        0x400C000000000000L, 0x432FFFFFFFFFFFFFL, 0x432FFFFFFFFFFFFEL, 0x4330000000000000L, 0x4330000000000001L,
        0x7FDFFFFFFFFFFFFFL, 0x7FE0000000000000L, 0x7FEFFFFFFFFFFFFFL, 0x7FF0000000000000L, 0x7FF0000000000001L};
    private static final int[] PULLS = {0, 1, 2, 3, 0x007FFFFF, 0x00800000, 0x00800001, 0x00FFFFFF, 0x01000000,
        0x3EFFFFFF, 0x3F000000, 0x3F000001, 0x3F7FFFFF, 0x3F800000, 0x3FC00000, 0x40200000, 0x40600000, 0x4AFFFFFF,
        0x4AFFFFFE, 0x4B000000, 0x4B000001, 0x7EFFFFFF, 0x7F000000, 0x7F7FFFFF, 0x7F800000, 0x7F800001};
    private static final long[] WHOLES = {0L, 1L, -1L, 2L, Integer.MIN_VALUE, Integer.MAX_VALUE, Long.MIN_VALUE,
        Long.MAX_VALUE, 1L << 32, 0x80000000L};

    private long seed = 20261116L;

    public static void main(String[] args) {
        Check check = new Check();
        ModelTest test = new ModelTest();
        for (int run = 0; run < RUNS; run++) {
            test.run(check, run);
        }
        check.end();
    }

    private int below(int bound) {
        seed = seed * 6364136223846793005L + 1442695040888963407L;
        return (int) ((seed >>> 33) % bound);
    }

    private long anyBits() {
        return (long) below(1 << 22) << 42 ^ (long) below(1 << 22) << 21 ^ below(1 << 22);
    }

    /** Mostly a number from 0 on and below the bound, now and then one beside. */
    private int mostly(int bound) {
        int kind = below(40);
        return kind == 0 ? -1 : kind == 1 ? bound : kind == 2 ? (int) anyBits() : below(bound);
    }

    private long bitsFor(int what) {
        boolean isAny = below(4) == 0;
        if (what == 1) {
            int shape = below(3) == 0 ? 0x3F000000 + below(0x0D000000) : PULLS[below(PULLS.length)];
            return isAny ? anyBits() : (below(2) == 0 ? shape : shape | 0x80000000);
        }
        if (what == 2 || what == 3) {
            return isAny ? anyBits() : WHOLES[below(WHOLES.length)];
        }
        long shape = below(3) == 0 ? 0x3FE0000000000000L + (anyBits() & 0x03FFFFFFFFFFFFFFL)
                : LENGTHS[below(LENGTHS.length)];
        return isAny ? anyBits() : (below(2) == 0 ? shape : shape | Long.MIN_VALUE);
    }

    /** So that a full figure is met too. */
    private void almostFillFigure(PuppetBar x, Model y) {
        for (int i = 0; i < 38; i++) {
            int m = below(16);
            int t = below(8);
            int u = below(8);
            x.step(m, t, u);
            y.step(m, t, u);
        }
    }

    private void run(Check check, int run) {
        PuppetBar x = new PuppetBar();
        Model y = new Model();
        if (below(4) == 0) {
            almostFillFigure(x, y);
        }
        for (int round = 0; round < ROUNDS; round++) {
            String told = "run " + run + ", round " + round + ": ";
            int a = mostly(8);
            int b = mostly(8);
            int m = mostly(16);
            switch (below(14)) {
                case 0, 1, 2 -> {
                    int what = mostly(6);
                    long bits = bitsFor(what);
                    check.due(told + "set(" + a + ", " + what + ", " + bits + ")", x.set(a, what, bits),
                            y.set(a, what, bits));
                }
                case 3, 4 -> {
                    int what = mostly(6);
                    check.due(told + "get(" + a + ", " + what + ")", x.get(a, what), y.get(a, what));
                }
                case 5 -> {
                    if (below(4) == 0) {
                        check.due(told + "cut(" + a + ")", x.cut(a), y.cut(a));
                    } else {
                        check.due(told + "string(" + a + ")", x.string(a), y.string(a));
                    }
                }
                case 6, 7, 8 -> check.due(told + "move(" + m + ", " + a + ", " + b + ")", x.move(m, a, b),
                        y.move(m, a, b));
                case 9, 10 -> check.due(told + "step(" + m + ", " + a + ", " + b + ")", x.step(m, a, b),
                        y.step(m, a, b));
                case 11 -> {
                    int n = below(3) == 0 ? mostly(51) : below(4);
                    check.due(told + "dance(" + n + ")", x.dance(n), y.dance(n));
                }
                case 12 -> check.due(told + "order(" + a + ")", x.order(a), y.order(a));
                default -> {
                    if (below(12) == 0) {
                        check.due(told + "forget()", x.forget(), y.forget());
                    }
                    int what = mostly(5);
                    check.due(told + "danced(" + what + ")", x.danced(what), y.danced(what));
                    check.due(told + "bar(" + what + ")", x.bar(what), y.bar(what));
                }
            }
            check.due(told + "refused()", x.refused(), y.refused());
        }
        sameState(check, "run " + run + " at the end: ", x, y);
    }

    private static void sameState(Check check, String told, PuppetBar x, Model y) {
        for (int t = 0; t < 8; t++) {
            for (int what = 0; what <= 5; what++) {
                check.due(told + "get(" + t + ", " + what + ")", x.get(t, what), y.get(t, what));
            }
            check.due(told + "order(" + t + ")", x.order(t), y.order(t));
        }
        for (int what = 0; what <= 5; what++) {
            check.due(told + "bar(" + what + ")", x.bar(what), y.bar(what));
            check.due(told + "danced(" + what + ")", x.danced(what), y.danced(what));
        }
    }
}
