/** Each sentence of the document that says when a move is refused, in which order, and what u may be. */
public final class RefusalEdgesTest {
    private static final Check check = new Check();
    private static final int[] WITH_U = {Check.STRETCH, Check.EASE, Check.MIRROR, Check.STOPS, Check.TRADE};
    private static final int[] OF_T_ALONE = {Check.FLIP, Check.DOWN, Check.UP, Check.NEAR, Check.LEAN, Check.HOLD,
        Check.GATHER, Check.CLIMB, Check.HALVE, Check.DOUBLE, Check.GIVE};
    private static final int[] NO_MOVE = {-1, 16, 17, Integer.MIN_VALUE, Integer.MAX_VALUE};
    private static final int CUT = Check.CUT;

    public static void main(String[] args) {
        movesOfTAloneWantNoU();
        thereIsNoThreadT();
        tIsCut();
        likewiseOfUWhereItIsWanted();
        thereIsNoSuchMove();
        theFirstOneThatIsSo();
        whatIsRefusedChangesNothing();
        tAndUMayBeTheSame();
        check.end();
    }

    private static void dueRefusal(PuppetBar x, int m, int t, int u, int want) {
        String call = "move(" + m + ", " + t + ", " + u + ")";
        int answer = x.move(m, t, u);
        check.due(call, answer < 0 ? -1 : 0, want == 0 ? 0 : -1);
        check.due("refused() of " + call, x.refused(), want);
    }

    private static void movesOfTAloneWantNoU() {
        check.sentence("(those that tell t alone want no u, whatever it is)");
        for (int m : OF_T_ALONE) {
            PuppetBar x = Check.withOneCut();
            for (int u : Check.OUTSIDE) {
                dueRefusal(x, m, 0, u, 0);
            }
            dueRefusal(x, m, 0, CUT, 0);
            x.forget();
            x.step(m, 0, 8);
            x.step(m, 0, CUT);
            check.due("danced too", x.dance(1), 2);
        }
    }

    private static void thereIsNoThreadT() {
        check.sentence("1 there is no thread t (0 .. 7)");
        for (int m = 0; m < 16; m++) {
            PuppetBar x = new PuppetBar();
            for (int t : Check.OUTSIDE) {
                dueRefusal(x, m, t, 0, 1);
            }
            dueRefusal(x, m, 0, 7, 0);
            dueRefusal(x, m, 7, 0, 0);
        }
    }

    private static void tIsCut() {
        check.sentence("2 t is cut");
        for (int m = 0; m < 16; m++) {
            for (int t = 0; t < 8; t++) {
                PuppetBar x = new PuppetBar();
                x.cut(t);
                dueRefusal(x, m, t, (t + 1) % 8, 2);
                x.string(t);
                dueRefusal(x, m, t, (t + 1) % 8, 0);
            }
        }
    }

    private static void likewiseOfUWhereItIsWanted() {
        check.sentence("3, 4 likewise of u, where u is wanted (1, 2, 7, 9, 11)");
        for (int m : WITH_U) {
            PuppetBar x = Check.withOneCut();
            for (int u : Check.OUTSIDE) {
                dueRefusal(x, m, 0, u, 3);
            }
            dueRefusal(x, m, 0, CUT, 4);
            dueRefusal(x, m, 0, 7, 0);
            dueRefusal(x, m, 7, 0, 0);
            x.string(CUT);
            dueRefusal(x, m, 0, CUT, 0);
        }
    }

    private static void thereIsNoSuchMove() {
        check.sentence("5 there is no such move (ahead of all)");
        PuppetBar x = Check.withOneCut();
        for (int m : NO_MOVE) {
            dueRefusal(x, m, 0, 1, 5);
            dueRefusal(x, m, 8, 1, 5);
            dueRefusal(x, m, CUT, 1, 5);
            dueRefusal(x, m, 0, -1, 5);
            dueRefusal(x, m, 0, CUT, 5);
        }
        dueRefusal(x, 0, 0, 1, 0);
        dueRefusal(x, 15, 0, 1, 0);
    }

    private static void theFirstOneThatIsSo() {
        check.sentence("A REFUSAL, the first one that is so");
        for (int m : WITH_U) {
            PuppetBar x = Check.withOneCut();
            dueRefusal(x, m, 8, -1, 1);
            dueRefusal(x, m, -1, CUT, 1);
            dueRefusal(x, m, CUT, 8, 2);
            dueRefusal(x, m, CUT, CUT, 2);
            dueRefusal(x, m, 8, 8, 1);
        }
    }

    private static void whatIsRefusedChangesNothing() {
        check.sentence("What is refused changes nothing.");
        for (int m = -1; m <= 16; m++) {
            PuppetBar x = withSomethingEverywhere();
            long[] before = Check.stateOf(x);
            boolean isMove = m >= 0 && m < 16;
            check.due("no thread", x.move(m, 8, 1), -1);
            check.due("a cut one", x.move(m, CUT, 1), -1);
            if (!isMove) {
                check.due("no move", x.move(m, 0, 1), -1);
            }
            check.dueState("after refusals of move " + m, x, before);
        }
        for (int m : WITH_U) {
            PuppetBar x = withSomethingEverywhere();
            long[] before = Check.stateOf(x);
            check.due("no u", x.move(m, 0, 8), -1);
            check.due("a cut u", x.move(m, 0, CUT), -1);
            check.dueState("after refusals of u of move " + m, x, before);
        }
    }

    /** A state that nearly every move would change, were it done. */
    private static PuppetBar withSomethingEverywhere() {
        PuppetBar x = Check.withOneCut();
        for (int t = 0; t < 8; t++) {
            Check.put(x, t, 4.5 - t * 2, t * 2 - 4.5f, 3 - t, t - 3L);
            x.set(t, Check.LOW, Check.bits(1.0));
            x.set(t, Check.HIGH, Check.bits(2.0));
        }
        x.move(Check.LEAN, 7, 0);
        x.step(Check.CLIMB, 0, 0);
        x.step(Check.CLIMB, 8, 0);
        x.dance(1);
        return x;
    }

    private static void tAndUMayBeTheSame() {
        check.sentence("(t and u may be the same.)");
        for (int m : WITH_U) {
            for (int t = 0; t < 8; t += 7) {
                PuppetBar x = new PuppetBar();
                Check.put(x, t, -1.5, -0.0f, Integer.MIN_VALUE, Long.MIN_VALUE);
                x.set(t, Check.LOW, Check.bits(3.0));
                x.set(t, Check.HIGH, Check.bits(-3.0));
                check.due("move(" + m + ", " + t + ", " + t + ")", x.move(m, t, t), 0);
                check.due("refused()", x.refused(), 0);
                check.dueThread("move " + m, x, t, -1.5, -0.0f, Integer.MIN_VALUE, Long.MIN_VALUE);
                boolean stopped = m == Check.STOPS;
                check.dueStops("move " + m, x, t, stopped ? -1.5 : 3.0, stopped ? -1.5 : -3.0);
            }
        }
    }
}
