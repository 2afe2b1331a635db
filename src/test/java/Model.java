import java.util.ArrayList;
import java.util.List;

/**
 * The document once more, with Java's own reals and Math, so that what PuppetBar does by bits is held
 * against something that works in another way: reals for bits, a sort for places, states held side by
 * side for what a move changed.
 */
final class Model {
    private static final class Strand implements Cloneable {
        double length = 0.0, low = Double.NEGATIVE_INFINITY, high = Double.POSITIVE_INFINITY;
        float pull = 0.0f;
        int knots = 0;
        long twist = 0L;

        Strand copy() {
            try {
                return (Strand) clone();
            } catch (CloneNotSupportedException e) {
                throw new IllegalStateException(e);
            }
        }
    }

    private final Strand[] strands = new Strand[8];
    private double tilt = 0.0;
    private float weight = 0.0f;
    private int count = 0;
    private long turn = 0L;
    private final List<int[]> figure = new ArrayList<>();
    private int refusal = 0;
    private int[] latest = new int[5];

    Model() {
        for (int t = 0; t < 8; t++) {
            strands[t] = new Strand();
        }
    }

    int set(int t, int what, long bits) {
        refusal = what < 0 || what > 5 ? 5 : lack(t, 0);
        boolean isLong = what == 0 || what == 4 || what == 5;
        if (refusal == 0 && (isLong && Double.isNaN(Double.longBitsToDouble(bits))
                || what == 1 && Float.isNaN(Float.intBitsToFloat((int) bits)))) {
            refusal = 6;
        }
        if (refusal == 0) {
            Strand s = strands[t];
            switch (what) {
                case 0 -> s.length = Double.longBitsToDouble(bits);
                case 1 -> s.pull = Float.intBitsToFloat((int) bits);
                case 2 -> s.knots = (int) bits;
                case 3 -> s.twist = bits;
                case 4 -> s.low = Double.longBitsToDouble(bits);
                default -> s.high = Double.longBitsToDouble(bits);
            }
        }
        return refusal;
    }

    long get(int t, int what) {
        refusal = what < 0 || what > 5 ? 5 : lack(t, 0);
        if (refusal != 0) {
            return 0L;
        }
        Strand s = strands[t];
        return switch (what) {
            case 0 -> Check.bits(s.length);
            case 1 -> Check.bits(s.pull);
            case 2 -> s.knots;
            case 3 -> s.twist;
            case 4 -> Check.bits(s.low);
            default -> Check.bits(s.high);
        };
    }

    int refused() {
        return refusal;
    }

    int cut(int t) {
        refusal = lack(t, 0);
        if (refusal == 0) {
            strands[t] = null;
        }
        return refusal;
    }

    int string(int t) {
        int lack = lack(t, 0);
        refusal = lack == 0 ? 7 : lack == 2 ? 0 : lack;
        if (refusal == 0) {
            strands[t] = new Strand();
        }
        return refusal;
    }

    int move(int m, int t, int u) {
        int[] changed = tryMove(m, t, u);
        return changed == null ? -1 : changed[1] + changed[2] + changed[3] + changed[4];
    }

    int step(int m, int t, int u) {
        if (figure.size() == 40) {
            return -1;
        }
        figure.add(new int[] {m, t, u});
        return figure.size();
    }

    int forget() {
        int had = figure.size();
        figure.clear();
        return had;
    }

    int dance(int n) {
        refusal = 0;
        if (n < 0 || n > 50) {
            return -1;
        }
        latest = new int[] {-1, 0, 0, 0, 0};
        for (int done = 0; done < n * figure.size(); done++) {
            int[] step = figure.get(done % figure.size());
            int[] changed = tryMove(step[0], step[1], step[2]);
            if (changed == null) {
                latest[0] = done % figure.size();
                return done;
            }
            for (int what = 1; what <= 4; what++) {
                latest[what] += changed[what];
            }
        }
        return n * figure.size();
    }

    int danced(int what) {
        return what < 0 || what > 4 ? -1 : latest[what];
    }

    long bar(int what) {
        return switch (what) {
            case 0 -> Check.bits(tilt);
            case 1 -> Check.bits(weight);
            case 2 -> count;
            case 3 -> turn;
            default -> 0L;
        };
    }

    int order(int k) {
        List<Integer> threads = new ArrayList<>(List.of(0, 1, 2, 3, 4, 5, 6, 7));
        threads.sort((a, b) -> {
            Strand s = strands[a];
            Strand o = strands[b];
            if (s == null || o == null) {
                return Boolean.compare(s == null, o == null);
            }
            int c = Double.compare(s.length, o.length);
            c = c != 0 ? c : Float.compare(s.pull, o.pull);
            c = c != 0 ? c : Integer.compare(s.knots, o.knots);
            return c != 0 ? c : Long.compare(s.twist, o.twist);
        });
        return k < 0 || k > 7 ? -1 : threads.get(k);
    }

    private int lack(int t, int more) {
        return t < 0 || t > 7 ? 1 + more : strands[t] == null ? 2 + more : 0;
    }

    private int[] tryMove(int m, int t, int u) {
        refusal = m < 0 || m > 15 ? 5 : lack(t, 0);
        if (refusal == 0 && (m == 1 || m == 2 || m == 7 || m == 9 || m == 11)) {
            refusal = lack(u, 2);
        }
        if (refusal != 0) {
            return null;
        }
        Strand[] before = new Strand[8];
        for (int i = 0; i < 8; i++) {
            before[i] = strands[i] == null ? null : strands[i].copy();
        }
        act(m, t, u);
        int[] changed = new int[5];
        for (int i = 0; i < 8; i++) {
            if (before[i] != null) {
                changed[1] += Check.bits(before[i].length) == Check.bits(strands[i].length) ? 0 : 1;
                changed[2] += Check.bits(before[i].pull) == Check.bits(strands[i].pull) ? 0 : 1;
                changed[3] += before[i].knots == strands[i].knots ? 0 : 1;
                changed[4] += before[i].twist == strands[i].twist ? 0 : 1;
            }
        }
        return changed;
    }

    private void act(int m, int t, int u) {
        Strand s = strands[t];
        Strand o = u < 0 || u > 7 ? null : strands[u];
        switch (m) {
            case 0 -> fill(s, Math.abs(s.length), Math.abs(s.pull), Math.abs(s.knots), Math.abs(s.twist));
            case 1 -> fill(s, Math.max(s.length, o.length), Math.max(s.pull, o.pull), Math.max(s.knots, o.knots),
                    Math.max(s.twist, o.twist));
            case 2 -> fill(s, Math.min(s.length, o.length), Math.min(s.pull, o.pull), Math.min(s.knots, o.knots),
                    Math.min(s.twist, o.twist));
            case 3 -> fill(s, Math.floor(s.length), (float) Math.floor(s.pull), s.knots, s.twist);
            case 4 -> fill(s, Math.ceil(s.length), (float) Math.ceil(s.pull), s.knots, s.twist);
            case 5 -> fill(s, Math.rint(s.length), (float) Math.rint(s.pull), s.knots, s.twist);
            case 6 -> {
                tilt = Math.signum(s.length);
                weight = Math.signum(s.pull);
            }
            case 7 -> fill(s, Math.copySign(s.length, o.length), Math.copySign(s.pull, o.pull), s.knots, s.twist);
            case 8 -> s.length = Math.min(Math.max(s.length, s.low), s.high);
            case 9 -> {
                s.low = Math.min(s.length, o.length);
                s.high = Math.max(s.length, o.length);
            }
            case 10 -> {
                tilt = Math.max(tilt, Math.abs(s.length));
                weight = Math.min(weight, Math.abs(s.pull));
                count = Math.max(count, Math.abs(s.knots));
                turn = Math.min(turn, Math.abs(s.twist));
            }
            case 11 -> {
                strands[t] = o;
                strands[u] = s;
            }
            case 12 -> fill(s, s.length, s.pull, s.knots + (int) Math.signum(s.length),
                    s.twist + (long) Math.signum(s.pull));
            case 13 -> fill(s, s.length / 2, s.pull / 2, s.knots, s.twist);
            case 14 -> fill(s, s.length * 2, s.pull * 2, s.knots, s.twist);
            default -> fill(s, tilt, weight, count, turn);
        }
    }

    private static void fill(Strand s, double length, float pull, int knots, long twist) {
        s.length = length;
        s.pull = pull;
        s.knots = knots;
        s.twist = twist;
    }
}
