/**
 * A puppet's bar with eight threads, moves, figures and dances, as ../shared/DOC.md promises it.
 *
 * <p>Every real is held as its IEEE 754 bits and worked on as such: the document speaks of bits, and
 * so no real has to be made from them and none that is no number can arise.
 */
public final class PuppetBar {
    public static final int NONE = -1;

    private static final int THREADS = 8;
    private static final int MOST_STEPS = 40;
    private static final int MOST_TIMES = 50;

    private static final int LENGTH = 0;
    private static final int PULL = 1;
    private static final int KNOTS = 2;
    private static final int TWIST = 3;
    private static final int LOW = 4;
    private static final int HIGH = 5;

    private static final int TILT = 0;
    private static final int WEIGHT = 1;
    private static final int COUNT = 2;
    private static final int TURN = 3;

    private static final int FLIP = 0;
    private static final int STRETCH = 1;
    private static final int EASE = 2;
    private static final int DOWN = 3;
    private static final int UP = 4;
    private static final int NEAR = 5;
    private static final int LEAN = 6;
    private static final int MIRROR = 7;
    private static final int HOLD = 8;
    private static final int STOPS = 9;
    private static final int GATHER = 10;
    private static final int TRADE = 11;
    private static final int CLIMB = 12;
    private static final int HALVE = 13;
    private static final int DOUBLE = 14;
    private static final int GIVE = 15;

    private static final int NOT_REFUSED = 0;
    private static final int NO_THREAD = 1;
    private static final int THREAD_IS_CUT = 2;
    /** What the refusals of u lie above those of t. */
    private static final int OF_THE_OTHER = 2;
    private static final int NO_SUCH = 5;
    private static final int NO_NUMBER = 6;
    private static final int NOT_CUT = 7;

    /** Where danced() finds the step that was refused; what was changed comes behind it. */
    private static final int REFUSED_STEP = 0;
    private static final int CHANGED_LENGTHS = 1;
    private static final int CHANGED_PULLS = 2;
    private static final int CHANGED_KNOTS = 3;
    private static final int CHANGED_TWISTS = 4;
    private static final int DANCED_PARTS = 5;

    private final long[] lengths = new long[THREADS];
    private final int[] pulls = new int[THREADS];
    private final int[] knots = new int[THREADS];
    private final long[] twists = new long[THREADS];
    private final long[] lows = new long[THREADS];
    private final long[] highs = new long[THREADS];
    private final boolean[] isCut = new boolean[THREADS];

    private long tilt = 0L;
    private int weight = 0;
    private int count = 0;
    private long turn = 0L;

    private final Figure figure = new Figure();
    private int refusal = NOT_REFUSED;

    /** What the move or dance under way has changed: not in the latest dance's row, which a lone move leaves alone. */
    private final int[] changes = new int[DANCED_PARTS];
    private final int[] latestDance = new int[DANCED_PARTS];

    public PuppetBar() {
        for (int t = 0; t < THREADS; t++) {
            stringAnew(t);
        }
    }

    public int set(int t, int what, long bits) {
        refusal = refusalOfSetting(t, what, bits);
        if (refusal == NOT_REFUSED) {
            write(t, what, bits);
        }
        return refusal;
    }

    public long get(int t, int what) {
        refusal = refusalOfPart(t, what);
        return refusal == NOT_REFUSED ? read(t, what) : 0L;
    }

    public int refused() {
        return refusal;
    }

    public int cut(int t) {
        refusal = refusalOfThread(t);
        if (refusal == NOT_REFUSED) {
            isCut[t] = true;
        }
        return refusal;
    }

    public int string(int t) {
        refusal = refusalOfStringing(t);
        if (refusal == NOT_REFUSED) {
            stringAnew(t);
        }
        return refusal;
    }

    public int move(int m, int t, int u) {
        refusal = refusalOfMove(m, t, u);
        if (refusal != NOT_REFUSED) {
            return NONE;
        }
        clearChanges();
        perform(m, t, u);
        return changes[CHANGED_LENGTHS] + changes[CHANGED_PULLS] + changes[CHANGED_KNOTS] + changes[CHANGED_TWISTS];
    }

    public int step(int m, int t, int u) {
        int last = figure.size;
        if (last < 0 || last >= MOST_STEPS) {
            return NONE;
        }
        figure.moves[last] = m;
        figure.threads[last] = t;
        figure.others[last] = u;
        figure.size = last + 1;
        return figure.size;
    }

    public int forget() {
        int had = figure.size;
        figure.size = 0;
        return had;
    }

    public int dance(int n) {
        refusal = NOT_REFUSED;
        if (n < 0 || n > MOST_TIMES) {
            return NONE;
        }
        clearChanges();
        int done = 0;
        int refusedStep = NONE;
        for (int time = 0; time < n && refusedStep == NONE; time++) {
            int doneNow = danceOnce();
            done += doneNow;
            if (refusal != NOT_REFUSED) {
                refusedStep = doneNow;
            }
        }
        keepDance(refusedStep);
        return done;
    }

    public int danced(int what) {
        return what >= 0 && what < DANCED_PARTS ? latestDance[what] : NONE;
    }

    public long bar(int what) {
        switch (what) {
            case TILT:
                return tilt;
            case WEIGHT:
                return weight;
            case COUNT:
                return count;
            case TURN:
                return turn;
            default:
                return 0L;
        }
    }

    public int order(int k) {
        for (int t = 0; t < THREADS; t++) {
            if (placeOf(t) == k) {
                return t;
            }
        }
        return NONE;
    }

    // ---- refusals ----

    private int refusalOfThread(int t) {
        if (t < 0 || t >= THREADS) {
            return NO_THREAD;
        }
        return isCut[t] ? THREAD_IS_CUT : NOT_REFUSED;
    }

    private int refusalOfPart(int t, int what) {
        return what < LENGTH || what > HIGH ? NO_SUCH : refusalOfThread(t);
    }

    private int refusalOfSetting(int t, int what, long bits) {
        int ofPart = refusalOfPart(t, what);
        if (ofPart != NOT_REFUSED) {
            return ofPart;
        }
        return isNumber(what, bits) ? NOT_REFUSED : NO_NUMBER;
    }

    private static boolean isNumber(int what, long bits) {
        switch (what) {
            case LENGTH:
            case LOW:
            case HIGH:
                return Reals.amount(bits) <= Reals.INFINITY;
            case PULL:
                return Reals.shortAmount((int) bits) <= Reals.SHORT_INFINITY;
            default:
                return true;
        }
    }

    private int refusalOfStringing(int t) {
        int ofThread = refusalOfThread(t);
        if (ofThread == THREAD_IS_CUT) {
            return NOT_REFUSED;
        }
        return ofThread == NOT_REFUSED ? NOT_CUT : ofThread;
    }

    private int refusalOfMove(int m, int t, int u) {
        if (m < FLIP || m > GIVE) {
            return NO_SUCH;
        }
        int ofThread = refusalOfThread(t);
        if (ofThread != NOT_REFUSED || !wantsOther(m)) {
            return ofThread;
        }
        int ofOther = refusalOfThread(u);
        return ofOther == NOT_REFUSED ? NOT_REFUSED : ofOther + OF_THE_OTHER;
    }

    private static boolean wantsOther(int m) {
        return m == STRETCH || m == EASE || m == MIRROR || m == STOPS || m == TRADE;
    }

    // ---- threads; from here on every t, u and what has been looked at ----

    private void stringAnew(int t) {
        isCut[t] = false;
        lengths[t] = 0L;
        pulls[t] = 0;
        knots[t] = 0;
        twists[t] = 0L;
        lows[t] = Reals.SIGN | Reals.INFINITY;
        highs[t] = Reals.INFINITY;
    }

    private void write(int t, int what, long bits) {
        switch (what) {
            case LENGTH:
                lengths[t] = bits;
                break;
            case PULL:
                pulls[t] = (int) bits;
                break;
            case KNOTS:
                knots[t] = (int) bits;
                break;
            case TWIST:
                twists[t] = bits;
                break;
            case LOW:
                lows[t] = bits;
                break;
            case HIGH:
                highs[t] = bits;
                break;
            default:
                break;
        }
    }

    private long read(int t, int what) {
        switch (what) {
            case LENGTH:
                return lengths[t];
            case PULL:
                return pulls[t];
            case KNOTS:
                return knots[t];
            case TWIST:
                return twists[t];
            case LOW:
                return lows[t];
            case HIGH:
                return highs[t];
            default:
                return 0L;
        }
    }

    private void changeLength(int t, long bits) {
        if (lengths[t] != bits) {
            lengths[t] = bits;
            changes[CHANGED_LENGTHS]++;
        }
    }

    private void changePull(int t, int bits) {
        if (pulls[t] != bits) {
            pulls[t] = bits;
            changes[CHANGED_PULLS]++;
        }
    }

    private void changeKnots(int t, int number) {
        if (knots[t] != number) {
            knots[t] = number;
            changes[CHANGED_KNOTS]++;
        }
    }

    private void changeTwist(int t, long number) {
        if (twists[t] != number) {
            twists[t] = number;
            changes[CHANGED_TWISTS]++;
        }
    }

    private void clearChanges() {
        for (int i = 0; i < DANCED_PARTS; i++) {
            changes[i] = 0;
        }
    }

    // ---- moves ----

    private void perform(int m, int t, int u) {
        switch (m) {
            case FLIP:
                flip(t);
                break;
            case STRETCH:
                stretch(t, u);
                break;
            case EASE:
                ease(t, u);
                break;
            case DOWN:
                letToWhole(t, lengths[t] < 0, pulls[t] < 0);
                break;
            case UP:
                letToWhole(t, lengths[t] >= 0, pulls[t] >= 0);
                break;
            case NEAR:
                letNear(t);
                break;
            case LEAN:
                lean(t);
                break;
            case MIRROR:
                mirror(t, u);
                break;
            case HOLD:
                hold(t);
                break;
            case STOPS:
                placeStops(t, u);
                break;
            case GATHER:
                gather(t);
                break;
            case TRADE:
                trade(t, u);
                break;
            case CLIMB:
                climb(t);
                break;
            case HALVE:
                halve(t);
                break;
            case DOUBLE:
                makeTwice(t);
                break;
            case GIVE:
                give(t);
                break;
            default:
                break;
        }
    }

    private void flip(int t) {
        changeLength(t, Reals.amount(lengths[t]));
        changePull(t, Reals.shortAmount(pulls[t]));
        changeKnots(t, Math.abs(knots[t]));
        changeTwist(t, Math.abs(twists[t]));
    }

    private void stretch(int t, int u) {
        changeLength(t, Reals.greater(lengths[t], lengths[u]));
        changePull(t, Reals.shortGreater(pulls[t], pulls[u]));
        changeKnots(t, Math.max(knots[t], knots[u]));
        changeTwist(t, Math.max(twists[t], twists[u]));
    }

    private void ease(int t, int u) {
        changeLength(t, Reals.lesser(lengths[t], lengths[u]));
        changePull(t, Reals.shortLesser(pulls[t], pulls[u]));
        changeKnots(t, Math.min(knots[t], knots[u]));
        changeTwist(t, Math.min(twists[t], twists[u]));
    }

    /** To the whole reals beside LENGTH and PULL: away from 0 where that is said, else towards it. */
    private void letToWhole(int t, boolean lengthAway, boolean pullAway) {
        long length = Reals.amount(lengths[t]);
        long pull = Reals.shortAmount(pulls[t]);
        changeAmounts(t,
                lengthAway ? Reals.wholeAbove(length, Reals.WIDTH, Reals.BIAS)
                        : Reals.wholeBelow(length, Reals.WIDTH, Reals.BIAS),
                pullAway ? Reals.wholeAbove(pull, Reals.SHORT_WIDTH, Reals.SHORT_BIAS)
                        : Reals.wholeBelow(pull, Reals.SHORT_WIDTH, Reals.SHORT_BIAS));
    }

    private void letNear(int t) {
        changeAmounts(t, Reals.wholeNear(Reals.amount(lengths[t]), Reals.WIDTH, Reals.BIAS),
                Reals.wholeNear(Reals.shortAmount(pulls[t]), Reals.SHORT_WIDTH, Reals.SHORT_BIAS));
    }

    private void lean(int t) {
        if (Reals.amount(lengths[t]) == 0) {
            tilt = lengths[t];
        } else {
            tilt = Reals.withSign(Reals.ONE, lengths[t]);
        }
        if (Reals.shortAmount(pulls[t]) == 0) {
            weight = pulls[t];
        } else {
            weight = Reals.shortWithSign(Reals.SHORT_ONE, pulls[t]);
        }
    }

    private void mirror(int t, int u) {
        changeLength(t, Reals.withSign(Reals.amount(lengths[t]), lengths[u]));
        changePull(t, Reals.shortWithSign(Reals.shortAmount(pulls[t]), pulls[u]));
    }

    private void hold(int t) {
        changeLength(t, Reals.lesser(Reals.greater(lengths[t], lows[t]), highs[t]));
    }

    private void placeStops(int t, int u) {
        lows[t] = Reals.lesser(lengths[t], lengths[u]);
        highs[t] = Reals.greater(lengths[t], lengths[u]);
    }

    private void gather(int t) {
        tilt = Reals.greater(tilt, Reals.amount(lengths[t]));
        weight = Reals.shortLesser(weight, Reals.shortAmount(pulls[t]));
        count = Math.max(count, Math.abs(knots[t]));
        turn = Math.min(turn, Math.abs(twists[t]));
    }

    private void trade(int t, int u) {
        long length = lengths[t];
        int pull = pulls[t];
        int knotsOfT = knots[t];
        long twist = twists[t];
        long low = lows[t];
        long high = highs[t];
        changeLength(t, lengths[u]);
        changePull(t, pulls[u]);
        changeKnots(t, knots[u]);
        changeTwist(t, twists[u]);
        lows[t] = lows[u];
        highs[t] = highs[u];
        changeLength(u, length);
        changePull(u, pull);
        changeKnots(u, knotsOfT);
        changeTwist(u, twist);
        lows[u] = low;
        highs[u] = high;
    }

    private void climb(int t) {
        if (Reals.amount(lengths[t]) != 0) {
            changeKnots(t, lengths[t] < 0 ? knots[t] - 1 : knots[t] + 1);
        }
        if (Reals.shortAmount(pulls[t]) != 0) {
            changeTwist(t, pulls[t] < 0 ? twists[t] - 1 : twists[t] + 1);
        }
    }

    private void halve(int t) {
        changeAmounts(t, Reals.half(Reals.amount(lengths[t]), Reals.WIDTH, Reals.INFINITY),
                Reals.half(Reals.shortAmount(pulls[t]), Reals.SHORT_WIDTH, Reals.SHORT_INFINITY));
    }

    private void makeTwice(int t) {
        changeAmounts(t, Reals.twice(Reals.amount(lengths[t]), Reals.WIDTH, Reals.INFINITY),
                Reals.twice(Reals.shortAmount(pulls[t]), Reals.SHORT_WIDTH, Reals.SHORT_INFINITY));
    }

    private void give(int t) {
        changeLength(t, tilt);
        changePull(t, weight);
        changeKnots(t, count);
        changeTwist(t, turn);
    }

    /** LENGTH and PULL of t get new amounts and keep their signs. */
    private void changeAmounts(int t, long length, long pull) {
        changeLength(t, Reals.withSign(length, lengths[t]));
        changePull(t, Reals.shortWithSign((int) pull, pulls[t]));
    }

    // ---- dances ----

    /** Does the figure's moves up to the first one that is refused: how many were done. */
    private int danceOnce() {
        for (int s = 0; s < figure.size && s < MOST_STEPS; s++) {
            refusal = refusalOfMove(figure.moves[s], figure.threads[s], figure.others[s]);
            if (refusal != NOT_REFUSED) {
                return s;
            }
            perform(figure.moves[s], figure.threads[s], figure.others[s]);
        }
        return figure.size;
    }

    private void keepDance(int refusedStep) {
        for (int i = 0; i < DANCED_PARTS; i++) {
            latestDance[i] = changes[i];
        }
        latestDance[REFUSED_STEP] = refusedStep;
    }

    // ---- order ----

    private int placeOf(int t) {
        int place = 0;
        for (int other = 0; other < THREADS; other++) {
            if (isAhead(other, t)) {
                place++;
            }
        }
        return place;
    }

    private boolean isAhead(int a, int b) {
        if (isCut[a] != isCut[b]) {
            return isCut[b];
        }
        int compared = isCut[a] ? 0 : compareStrung(a, b);
        return compared == 0 ? a < b : compared < 0;
    }

    private int compareStrung(int a, int b) {
        int compared = Long.compare(Reals.rank(lengths[a]), Reals.rank(lengths[b]));
        if (compared == 0) {
            compared = Integer.compare(Reals.shortRank(pulls[a]), Reals.shortRank(pulls[b]));
        }
        if (compared == 0) {
            compared = Integer.compare(knots[a], knots[b]);
        }
        if (compared == 0) {
            compared = Long.compare(twists[a], twists[b]);
        }
        return compared;
    }

    /** A row of steps: of step s the move, its t and its u stand at s. */
    private static final class Figure {
        final int[] moves = new int[MOST_STEPS];
        final int[] threads = new int[MOST_STEPS];
        final int[] others = new int[MOST_STEPS];
        int size = 0;
    }

    /**
     * Reals by their bits: those of 8 bytes in a long, the short ones of 4 bytes in an int. An amount
     * is the bits without the sign, and amounts stand in the order of their bits; so what rounds an
     * amount serves both sizes, told the fraction's width and the exponent's bias.
     */
    private static final class Reals {
        static final int WIDTH = 52;
        static final int BIAS = 1023;
        static final long SIGN = 0x8000000000000000L;
        static final long INFINITY = 0x7FF0000000000000L;
        static final long ONE = 0x3FF0000000000000L;

        static final int SHORT_WIDTH = 23;
        static final int SHORT_BIAS = 127;
        static final int SHORT_SIGN = 0x80000000;
        static final int SHORT_INFINITY = 0x7F800000;
        static final int SHORT_ONE = 0x3F800000;

        static long amount(long bits) {
            return bits & ~SIGN;
        }

        static int shortAmount(int bits) {
            return bits & ~SHORT_SIGN;
        }

        static long withSign(long amount, long signed) {
            return amount | (signed & SIGN);
        }

        static int shortWithSign(int amount, int signed) {
            return amount | (signed & SHORT_SIGN);
        }

        /** A whole number that is greater for the greater real: below 0 the bits run the other way. */
        static long rank(long bits) {
            return bits < 0 ? bits ^ ~SIGN : bits;
        }

        static int shortRank(int bits) {
            return bits < 0 ? bits ^ ~SHORT_SIGN : bits;
        }

        static long greater(long a, long b) {
            return rank(a) >= rank(b) ? a : b;
        }

        static long lesser(long a, long b) {
            return rank(a) <= rank(b) ? a : b;
        }

        static int shortGreater(int a, int b) {
            return shortRank(a) >= shortRank(b) ? a : b;
        }

        static int shortLesser(int a, int b) {
            return shortRank(a) <= shortRank(b) ? a : b;
        }

        /** The power of two at which an amount begins; of the amounts too small for that, one far below 0. */
        private static int power(long amount, int width, int bias) {
            return (int) (amount >> width) - bias;
        }

        static long wholeBelow(long amount, int width, int bias) {
            int power = power(amount, width, bias);
            if (power < 0) {
                return 0L;
            }
            return power >= width ? amount : amount & -(1L << (width - power));
        }

        static long wholeAbove(long amount, int width, int bias) {
            long below = wholeBelow(amount, width, bias);
            return below == amount ? amount : nextWhole(below, width, bias);
        }

        static long wholeNear(long amount, int width, int bias) {
            long below = wholeBelow(amount, width, bias);
            if (below == amount) {
                return amount;
            }
            int power = power(amount, width, bias);
            if (power < 0) {
                long half = (long) (bias - 1) << width;
                return amount <= half ? 0L : nextWhole(0L, width, bias);
            }
            long unit = 1L << (width - power);
            long pastHalf = amount - below - (unit >> 1);
            // Of 1 the unit is the exponent's last bit, which is set, as the bias is odd: 1 counts as odd here too.
            boolean belowIsEven = (below & unit) == 0;
            boolean staysBelow = pastHalf < 0 || (pastHalf == 0 && belowIsEven);
            return staysBelow ? below : nextWhole(below, width, bias);
        }

        /** One more than a whole amount whose unit is in the fraction; a carry goes into the exponent, as it should. */
        private static long nextWhole(long whole, int width, int bias) {
            if (whole == 0) {
                return (long) bias << width;
            }
            return whole + (1L << (width - power(whole, width, bias)));
        }

        static long half(long amount, int width, long infinity) {
            if (amount == infinity) {
                return amount;
            }
            long full = 1L << width;
            if (amount >= 2 * full) {
                return amount - full;
            }
            // Here the bits count the least reals above 0: the half of them may lie between two.
            long below = amount >> 1;
            return (amount & 1) == 0 ? below : below + (below & 1);
        }

        static long twice(long amount, int width, long infinity) {
            if (amount == infinity) {
                return amount;
            }
            long full = 1L << width;
            if (amount < full) {
                return amount << 1;
            }
            long doubled = amount + full;
            return doubled > infinity ? infinity : doubled;
        }
    }
}
