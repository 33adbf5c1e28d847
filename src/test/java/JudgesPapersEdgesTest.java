/** The boundary cases of promises 1 to 6: a new object, judge, paper, tie, mark, set. */
public final class JudgesPapersEdgesTest {
    private static final int UNKNOWN = PaperMarks.UNKNOWN, OUTSIDE = PaperMarks.OUTSIDE, STATE = PaperMarks.STATE;
    private static final int FULL = PaperMarks.FULL, NO = PaperMarks.NO, NONE = PaperMarks.NONE;
    private static final long LOST = PaperMarks.LOST;

    public static void main(String[] args) {
        newObjectHasNoJudges();
        newObjectHasNoPapers();
        newObjectHasNoRule();
        newObjectHasNoSignsAndMarks();
        judgeRefusals();
        judgesAreNumberedFrom0();
        leanBoundsAreLeans();
        slipBoundsAreSlips();
        paperRefusals();
        papersAreNumberedFrom0();
        worthBoundsAreWorths();
        everyJudgeMayWrite();
        tieRefusals();
        tieIsToldWith10More();
        allTiesAreApart();
        markRefusals();
        markBounds();
        noMarkOfTheirOwn();
        allMarksAreApart();
        setRefusals();
        keysBounds();
        laterBounds();
        allSetsAreApart();
        Due.end();
    }

    // ---- promise 1

    private static void newObjectHasNoJudges() {
        PaperMarks x = new PaperMarks();
        Due.is("told(0)", x.told(0), 0);
        Due.is("tie", x.tie(0, 1, 0), UNKNOWN);
        Due.is("set keys of a judge", x.set(0, 0, 0), UNKNOWN);
        Due.is("joined", x.joined(0), UNKNOWN);
        Due.is("harsh", x.harsh(0, 0), LOST + UNKNOWN);
        Due.is("more", x.more(0, 1, 0, 0), LOST + UNKNOWN);
        Due.is("a paper by judge 0", x.paper(0, 0), UNKNOWN);
        Due.is("parts", x.parts(), 0);
        Due.is("swaps", x.swap(-1), 0);
        Due.is("the first swap", x.swap(0), NONE);
        Due.is("rings", x.ring(-1), 0);
        Due.is("the first ring", x.ring(0), NONE);
        Due.is("right by judge 0", x.right(1, 1, 0), LOST + OUTSIDE);
        x.paper(0, NONE);
        Due.is("mark", x.mark(0, 0, 0), UNKNOWN);
        Due.is("bid", x.bid(0, 0, 0), UNKNOWN);
        Due.is("nobody has no keys", x.seen(0, 0), 0);
        Due.is("the first judge", x.judge(0, 0), 0);
    }

    private static void newObjectHasNoPapers() {
        PaperMarks x = new PaperMarks();
        Due.is("told(1)", x.told(1), 0);
        Due.is("set keys of a paper", x.set(1, 0, 0), UNKNOWN);
        Due.is("set what later years gave", x.set(2, 0, 0), UNKNOWN);
        Due.is("yes", x.yes(0), UNKNOWN);
        Due.is("taken", x.taken(0, 0, 0), LOST + UNKNOWN);
        Due.is("lot", x.lot(0, 0, 0, 0), LOST + UNKNOWN);
        Due.is("rounds", x.rounds(0, 0, 1, 0, 0), LOST + UNKNOWN);
        Due.is("worth", x.worth(0, 0, 0), LOST + UNKNOWN);
        Due.is("seen", x.seen(0, 0), UNKNOWN);
        Due.is("match of all", x.match(1, 1, -1), 0);
        Due.is("match of paper 0", x.match(1, 1, 0), UNKNOWN);
        Due.is("held", x.held(0), 0);
        Due.is("held round", x.held(1), 0);
        x.judge(0, 0);
        Due.is("mark", x.mark(0, 0, 0), UNKNOWN);
        Due.is("bid", x.bid(0, 0, 0), UNKNOWN);
        Due.is("the first paper", x.paper(0, NONE), 0);
    }

    private static void newObjectHasNoRule() {
        PaperMarks x = new PaperMarks();
        Due.is("told(3)", x.told(3), 0);
        Due.is("right", x.right(1, 0, 0), LOST + STATE);
        x.judge(0, 0);
        x.paper(0, NONE);
        Due.is("yes", x.yes(0), STATE);
        Due.is("taken", x.taken(0, 0, 0), LOST + STATE);
        Due.is("lot", x.lot(0, 0, 0, 0), LOST + STATE);
        Due.is("more", x.more(0, 1, 0, 0), LOST + STATE);
        Due.is("rounds", x.rounds(0, 0, 1, 0, 0), LOST + STATE);
    }

    private static void newObjectHasNoSignsAndMarks() {
        PaperMarks x = new PaperMarks();
        Due.is("told(2)", x.told(2), 0);
        Due.is("told(4)", x.told(4), 0);
        Due.is("fault: signs must come", x.fault(), 0);
        Due.is("rule", x.rule(), NO);
        Due.is("wipe", x.wipe(), 0);
        Due.is("the first sign", x.say('a'), 1);
    }

    // ---- promise 2

    private static void judgeRefusals() {
        for (State state : State.ALL) {
            int full = state.judges() == 6 ? FULL : 0;
            Refusals.of(state, "judge", n -> full, Refusals.within(-2, 2), Refusals.within(0, 2));
        }
    }

    private static void judgesAreNumberedFrom0() {
        PaperMarks x = new PaperMarks();
        for (int i = 0; i < 6; i++) {
            Due.is("a refused one has no number", x.judge(3, 0), OUTSIDE);
            Due.is("judge " + i, x.judge(0, 0), i);
            Due.is("so many", x.told(0), i + 1);
        }
        Due.is("7th", x.judge(0, 0), FULL);
        Due.is("8th", x.judge(0, 0), FULL);
        Due.is("six", x.told(0), 6);
        Due.is("the sixth is there", x.joined(5), 0);
        Due.is("the seventh is not", x.joined(6), UNKNOWN);
    }

    /** A judge's odds of each mark, in quarters: those of more than one less, without those of more. */
    private static void marksAre(String what, PaperMarks x, int judge, int paper, int... quarters) {
        long atLeast = 4;
        for (int mark = 0; mark <= 5; mark++) {
            long over = mark == 5 ? 0 : overQuarters(x, judge, paper, mark);
            Due.is(what + ": mark " + mark, atLeast - over, quarters[mark]);
            atLeast = over;
        }
    }

    private static long overQuarters(PaperMarks x, int judge, int paper, int mark) {
        x.wipe();
        Due.say(x, "g>" + 10 * mark);
        x.rule();
        return 4 * x.taken(paper, 1 << judge, 0) / x.taken(paper, 1 << judge, 1);
    }

    private static void leanBoundsAreLeans() {
        PaperMarks x = new PaperMarks();
        x.judge(-2, 0);
        x.judge(2, 0);
        for (int worth : new int[] {0, 2, 3, 5}) {
            x.paper(worth, NONE);
        }
        marksAre("lean -2 of worth 2", x, 0, 1, 4, 0, 0, 0, 0, 0);
        marksAre("lean -2 of worth 0 is held to 0", x, 0, 0, 4, 0, 0, 0, 0, 0);
        marksAre("lean -2 of worth 5", x, 0, 3, 0, 0, 0, 4, 0, 0);
        marksAre("lean 2 of worth 3", x, 1, 2, 0, 0, 0, 0, 0, 4);
        marksAre("lean 2 of worth 5 is held to 5", x, 1, 3, 0, 0, 0, 0, 0, 4);
        marksAre("lean 2 of worth 0", x, 1, 0, 0, 0, 4, 0, 0, 0);
    }

    private static void slipBoundsAreSlips() {
        PaperMarks x = new PaperMarks();
        x.judge(0, 0);
        x.judge(0, 1);
        x.judge(0, 2);
        x.paper(0, NONE);
        x.paper(2, NONE);
        x.paper(5, NONE);
        marksAre("slip 0", x, 0, 1, 0, 0, 4, 0, 0, 0);
        marksAre("slip 1", x, 1, 1, 0, 1, 2, 1, 0, 0);
        marksAre("slip 2 never marks just that", x, 2, 1, 0, 2, 0, 2, 0, 0);
        marksAre("slip 1 at 0", x, 1, 0, 3, 1, 0, 0, 0, 0);
        marksAre("slip 2 at 0", x, 2, 0, 2, 2, 0, 0, 0, 0);
        PaperMarks y = new PaperMarks();
        y.judge(0, 1);
        y.judge(0, 2);
        y.judge(2, 2);
        y.judge(-2, 2);
        y.paper(5, NONE);
        y.paper(0, NONE);
        marksAre("slip 1 at 5", y, 0, 0, 0, 0, 0, 0, 1, 3);
        marksAre("slip 2 at 5", y, 1, 0, 0, 0, 0, 0, 2, 2);
        marksAre("far over 5", y, 2, 0, 0, 0, 0, 0, 0, 4);
        marksAre("far under 0", y, 3, 1, 4, 0, 0, 0, 0, 0);
    }

    // ---- promise 3

    private static void paperRefusals() {
        for (State state : State.ALL) {
            int full = state.papers() == 6 ? FULL : 0;
            Refusals.of(state, "paper", n -> full, Refusals.within(0, 5), Refusals.oneOfOr(state.judges(), NONE));
        }
    }

    private static void papersAreNumberedFrom0() {
        PaperMarks x = new PaperMarks();
        for (int i = 0; i < 6; i++) {
            Due.is("a refused one has no number", x.paper(0, 0), UNKNOWN);
            Due.is("another one", x.paper(6, NONE), OUTSIDE);
            Due.is("paper " + i, x.paper(0, NONE), i);
            Due.is("so many", x.told(1), i + 1);
        }
        Due.is("7th", x.paper(0, NONE), FULL);
        Due.is("8th", x.paper(5, NONE), FULL);
        Due.is("six", x.told(1), 6);
        Due.is("the sixth is there", x.seen(5, 0), 0);
        Due.is("the seventh is not", x.seen(6, 0), UNKNOWN);
        Due.is("judges still fit", x.judge(0, 0), 0);
    }

    private static void worthBoundsAreWorths() {
        PaperMarks x = new PaperMarks();
        x.judge(0, 0);
        x.paper(0, NONE);
        x.paper(5, NONE);
        marksAre("worth 0", x, 0, 0, 4, 0, 0, 0, 0, 0);
        marksAre("worth 5", x, 0, 1, 0, 0, 0, 0, 0, 4);
    }

    private static void everyJudgeMayWrite() {
        PaperMarks x = new PaperMarks();
        for (int i = 0; i < 6; i++) {
            Due.is("not before it is there", x.paper(0, i), UNKNOWN);
            x.judge(0, 0);
            Due.is("then", x.paper(0, i), i);
        }
        for (int judge = 0; judge < 6; judge++) {
            for (int paper = 0; paper < 6; paper++) {
                Due.is("its own alone is refused", x.mark(judge, paper, 0), judge == paper ? NO : NONE);
            }
        }
    }

    // ---- promise 4

    private static void tieRefusals() {
        for (State state : State.ALL) {
            Refusals.of(state, "tie", n -> n[0] == n[1] ? UNKNOWN : 0, Refusals.oneOf(state.judges()),
                Refusals.oneOf(state.judges()), Refusals.within(-1, 1));
        }
        PaperMarks x = new PaperMarks();
        x.judge(0, 0);
        Due.is("a single judge", x.tie(0, 0, 0), UNKNOWN);
        Due.is("a single judge and nobody", x.tie(0, 1, 0), UNKNOWN);
    }

    private static void tieIsToldWith10More() {
        PaperMarks x = new PaperMarks();
        x.judge(0, 0);
        x.judge(0, 0);
        int was = 0;
        int[][] turns = {{0, 1, -1}, {1, 0, -1}, {0, 1, 0}, {1, 0, 1}, {0, 1, 1}, {0, 1, -1}, {1, 0, 1}, {1, 0, 0}};
        for (int[] turn : turns) {
            Due.is("it was " + was, x.tie(turn[0], turn[1], turn[2]), 10 + was);
            was = turn[2];
        }
        Due.is("at last", x.tie(1, 0, 0), 10);
    }

    private static void allTiesAreApart() {
        PaperMarks x = new PaperMarks();
        for (int i = 0; i < 6; i++) {
            x.judge(0, 0);
        }
        for (int a = 0; a < 6; a++) {
            for (int b = a + 1; b < 6; b++) {
                Due.is("none at first", x.tie(b, a, (a + 2 * b) % 3 - 1), 10);
            }
        }
        for (int a = 0; a < 6; a++) {
            for (int b = 0; b < 6; b++) {
                int low = Math.min(a, b);
                int tie = (low + 2 * Math.max(a, b)) % 3 - 1;
                Due.is("tie of " + a + " and " + b, x.tie(a, b, tie), a == b ? UNKNOWN : 10 + tie);
            }
        }
    }

    // ---- promise 5

    private static int writerOf(State state, int paper) {
        if (state == State.FULL) {
            return paper < 0 || paper > 5 ? NONE : State.FULL_WRITERS[paper];
        }
        return paper == 0 ? 0 : NONE;
    }

    private static void markRefusals() {
        for (State state : State.ALL) {
            Refusals.of(state, "mark", n -> n[0] == writerOf(state, n[1]) ? NO : 0, Refusals.oneOf(state.judges()),
                Refusals.oneOf(state.papers()), Refusals.within(-1, 5));
        }
    }

    private static void markBounds() {
        PaperMarks x = new PaperMarks();
        x.judge(0, 0);
        x.paper(0, NONE);
        int was = NONE;
        for (int v : new int[] {-1, 0, 0, 5, 5, -1, -1, 5, 0, -1}) {
            Due.is("it was " + was, x.mark(0, 0, v), was);
            was = v == -1 ? NONE : v;
            Due.is("so many came", x.told(4), v == -1 ? 0 : 1);
        }
        Due.is("NONE is not how none is set", x.mark(0, 0, NONE), OUTSIDE);
    }

    private static void noMarkOfTheirOwn() {
        PaperMarks x = new PaperMarks();
        x.judge(0, 0);
        x.judge(0, 0);
        x.paper(0, 1);
        for (int v = -1; v <= 5; v++) {
            Due.is("its own, " + v, x.mark(1, 0, v), NO);
        }
        Due.is("OUTSIDE first", x.mark(1, 0, -2), OUTSIDE);
        Due.is("OUTSIDE first", x.mark(1, 0, 6), OUTSIDE);
        Due.is("UNKNOWN first", x.mark(1, 1, 6), UNKNOWN);
        Due.is("nothing came", x.told(4), 0);
        Due.is("it marked none", x.joined(1), 0);
        Due.is("another one may", x.mark(0, 0, 5), NONE);
    }

    private static void allMarksAreApart() {
        PaperMarks x = new PaperMarks();
        for (int i = 0; i < 6; i++) {
            x.judge(0, 0);
            x.paper(0, NONE);
        }
        for (int i = 0; i < 36; i++) {
            Due.is("none at first", x.mark(i / 6, i % 6, i * 7 % 6), NONE);
            Due.is("so many", x.told(4), i + 1);
        }
        for (int i = 0; i < 36; i++) {
            Due.is("a second one goes in its place", x.mark(i / 6, i % 6, i % 5), i * 7 % 6);
            Due.is("as many", x.told(4), 36);
        }
        for (int i = 0; i < 36; i++) {
            Due.is("it goes", x.mark(i / 6, i % 6, -1), i % 5);
            Due.is("one fewer", x.told(4), 35 - i);
        }
    }

    // ---- promise 6

    private static void setRefusals() {
        for (State state : State.ALL) {
            Refusals.Argument judge = Refusals.oneOf(state.judges());
            Refusals.Argument paper = Refusals.oneOf(state.papers());
            Refusals.of(state, "set", Refusals.just(0), judge, Refusals.within(0, 63));
            Refusals.of(state, "set", Refusals.just(1), paper, Refusals.within(0, 63));
            Refusals.of(state, "set", Refusals.just(2), paper, Refusals.within(-1, 9));
            for (int which : new int[] {-1, 3, Integer.MIN_VALUE, Integer.MAX_VALUE}) {
                Refusals.of(state, "set", n -> OUTSIDE, Refusals.just(which), Refusals.just(0),
                    Refusals.within(0, 9));
            }
        }
    }

    private static void keysBounds() {
        PaperMarks x = new PaperMarks();
        x.judge(0, 0);
        x.paper(0, NONE);
        for (int which = 0; which <= 1; which++) {
            int was = 0;
            for (int v : new int[] {0, 63, 63, 1, 32, 0}) {
                Due.is("keys were " + was, x.set(which, 0, v), was);
                was = v;
            }
            Due.is("none is no number of keys", x.set(which, 0, -1), OUTSIDE);
            Due.is("a seventh key", x.set(which, 0, 64), OUTSIDE);
            Due.is("still", x.set(which, 0, 0), 0);
        }
    }

    private static void laterBounds() {
        PaperMarks x = new PaperMarks();
        x.paper(0, NONE);
        int was = NONE;
        for (int v : new int[] {-1, 0, 0, 9, 9, -1, -1, 9, 0, -1}) {
            Due.is("later was " + was, x.set(2, 0, v), was);
            was = v == -1 ? NONE : v;
        }
        Due.is("10", x.set(2, 0, 10), OUTSIDE);
        Due.is("NONE is not how none is set", x.set(2, 0, NONE), OUTSIDE);
        Due.is("still none", x.set(2, 0, -1), NONE);
    }

    private static void allSetsAreApart() {
        PaperMarks x = new PaperMarks();
        for (int i = 0; i < 6; i++) {
            x.judge(0, 0);
            x.paper(0, NONE);
        }
        for (int i = 0; i < 6; i++) {
            Due.is("judge's keys at first", x.set(0, i, 10 * i + 3), 0);
            Due.is("paper's keys at first", x.set(1, i, 9 * i + 5), 0);
            Due.is("later number at first", x.set(2, i, 9 - i), NONE);
        }
        for (int i = 0; i < 6; i++) {
            Due.is("judge's keys", x.set(0, i, 0), 10 * i + 3);
            Due.is("paper's keys", x.set(1, i, 0), 9 * i + 5);
            Due.is("later number", x.set(2, i, -1), 9 - i);
        }
    }
}
