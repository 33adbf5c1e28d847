/** The boundary cases of promises 12 to 16: taken, lot, right, more, rounds. */
public final class OddsEdgesTest {
    private static final int NONE = PaperMarks.NONE, OUTSIDE = PaperMarks.OUTSIDE, STATE = PaperMarks.STATE;
    private static final int UNKNOWN = PaperMarks.UNKNOWN;
    private static final long LOST = PaperMarks.LOST;
    private static final int ALL_SIX = 63;

    public static void main(String[] args) {
        takenRefusals();
        takenByNobody();
        takenSurelyAndNever();
        aMarkOf0IsAMark();
        takenLeastAndGreatestOdds();
        takenLeavesTheWriterOut();
        judgesOfEachCount();
        lotRefusals();
        lotOfNobodyAndOfTheSame();
        lotBounds();
        rightRefusals();
        rightOfNoPapers();
        rightAllAndNone();
        barIsWorthOrMore();
        moreRefusals();
        moreOfNothing();
        moreBounds();
        roundsRefusals();
        roundsOfNobody();
        roundsSurelyAndNever();
        roundsBounds();
        askingChangesNothing();
        Due.end();
    }

    private static int noRule(State state) {
        return state.ruled() ? 0 : STATE;
    }

    private static Refusals.Argument part() {
        return Refusals.within(0, 1);
    }

    private static Refusals.Argument bits(State state) {
        return Refusals.bits(state.judges());
    }

    private static Refusals.Argument paper(State state) {
        return Refusals.oneOf(state.papers());
    }

    /** Six judges who slip by one quarter each way, and papers of these worths without a writer. */
    private static PaperMarks six(int lean, int slip, String rule, int... worths) {
        PaperMarks x = new PaperMarks();
        for (int i = 0; i < 6; i++) {
            x.judge(lean, slip);
        }
        for (int worth : worths) {
            x.paper(worth, NONE);
        }
        Due.makeRule(x, rule, rule.split(";").length);
        return x;
    }

    // ---- promise 12

    private static void takenRefusals() {
        for (State state : State.ALL) {
            Refusals.of(state, "taken", n -> noRule(state), paper(state), bits(state), part());
        }
        PaperMarks x = new PaperMarks();
        x.paper(0, NONE);
        Due.is("LOST less 1", x.taken(1, 0, 0), -1000000000000000001L);
        Due.is("LOST less 2", x.taken(0, 1, 0), -1000000000000000002L);
        Due.is("LOST less 3", x.taken(0, 0, 0), -1000000000000000003L);
    }

    private static void taken(String what, PaperMarks x, int paper, int judges, long upper, long lower) {
        Due.fraction(what, x.taken(paper, judges, 0), x.taken(paper, judges, 1), upper, lower);
    }

    private static void takenByNobody() {
        PaperMarks x = new PaperMarks();
        x.paper(5, NONE);
        Due.makeRule(x, "g>0", 1);
        taken("there are no judges", x, 0, 0, 0, 1);
        Due.is("judge 0 is not there", x.taken(0, 1, 0), LOST + OUTSIDE);
        x.judge(0, 0);
        taken("no judge is asked", x, 0, 0, 0, 1);
        taken("one is", x, 0, 1, 1, 1);
    }

    private static void takenSurelyAndNever() {
        PaperMarks x = six(0, 0, "l>49", 5, 4);
        taken("surely, by one", x, 0, 32, 1, 1);
        taken("surely, by six", x, 0, ALL_SIX, 1, 1);
        taken("never, by one", x, 1, 32, 0, 1);
        taken("never, by six", x, 1, ALL_SIX, 0, 1);
    }

    private static void aMarkOf0IsAMark() {
        PaperMarks x = new PaperMarks();
        x.judge(-2, 0);
        x.judge(2, 0);
        x.judge(-1, 1);
        x.paper(2, NONE);
        Due.makeRule(x, "g>30", 1);
        taken("0 with 4: the greatest", x, 0, 3, 1, 1);
        Due.makeRule(x, "a>19", 1);
        taken("0 with 4: the mean", x, 0, 3, 1, 1);
        Due.makeRule(x, "a>20", 1);
        taken("0 with 4: the mean is no more", x, 0, 3, 0, 1);
        Due.makeRule(x, "m>0", 1);
        taken("0 with 4: the lower one", x, 0, 3, 0, 1);
        taken("0 in one of four ways", x, 0, 4, 3, 4);
        taken("0, 4, and 0 in one of four ways", x, 0, 7, 3, 4);
    }

    private static void takenLeastAndGreatestOdds() {
        // All six must slip upwards, and the coin must fall well: 7 quarters.
        taken("least", six(0, 1, "l>30?1", 3), 0, ALL_SIX, 1, 16384);
        // All six must slip downwards, and the coin must fall ill.
        taken("greatest", six(0, 1, "g>20;g>0?3", 3), 0, ALL_SIX, 16383, 16384);
        taken("a quarter", six(0, 0, "l>0?1", 3), 0, ALL_SIX, 1, 4);
        taken("a half is in lowest terms", six(0, 0, "l>0?2", 3), 0, ALL_SIX, 1, 2);
        taken("three quarters", six(0, 0, "l>0?3", 3), 0, ALL_SIX, 3, 4);
    }

    private static void takenLeavesTheWriterOut() {
        PaperMarks x = new PaperMarks();
        x.judge(0, 0);
        x.judge(-2, 0);
        x.paper(5, 0);
        x.paper(5, 1);
        Due.makeRule(x, "l>40", 1);
        taken("the writer alone is nobody", x, 0, 1, 0, 1);
        taken("the writer beside another", x, 0, 3, 0, 1);
        taken("without the writer", x, 1, 3, 1, 1);
        taken("the other's own", x, 1, 2, 0, 1);
    }

    private static void judgesOfEachCount() {
        for (int count = 0; count <= 6; count++) {
            PaperMarks x = new PaperMarks();
            x.paper(5, NONE);
            Due.makeRule(x, "l>0", 1);
            for (int i = 0; i < count; i++) {
                x.judge(0, 0);
            }
            int all = (1 << count) - 1;
            taken("all of " + count, x, 0, all, count == 0 ? 0 : 1, 1);
            Due.is("one more than " + count, x.taken(0, 1 << count, 0), LOST + OUTSIDE);
            Due.is("all and one more than " + count, x.taken(0, all + (1 << count), 0), LOST + OUTSIDE);
            Due.is("below 0", x.taken(0, -1, 0), LOST + OUTSIDE);
            Due.is("the sign bit", x.taken(0, all | Integer.MIN_VALUE, 0), LOST + OUTSIDE);
        }
    }

    // ---- promise 13

    private static void lotRefusals() {
        for (State state : State.ALL) {
            Refusals.of(state, "lot", n -> noRule(state), paper(state), bits(state), bits(state), part());
        }
    }

    private static void lot(String what, PaperMarks x, int one, int two, long upper, long lower) {
        Due.fraction(what, x.lot(0, one, two, 0), x.lot(0, one, two, 1), upper, lower);
    }

    private static void lotOfNobodyAndOfTheSame() {
        PaperMarks x = six(0, 2, "l>20", 3);
        lot("two nobodies", x, 0, 0, 0, 1);
        lot("nobody and one", x, 0, 1, 1, 2);
        lot("one and nobody", x, 1, 0, 1, 2);
        // The same judges mark anew, each set by itself.
        lot("the same one twice", x, 1, 1, 1, 2);
        lot("six twice", x, ALL_SIX, ALL_SIX, 63, 2048);
        PaperMarks none = new PaperMarks();
        none.paper(0, NONE);
        Due.makeRule(none, "l>0", 1);
        lot("there are no judges", none, 0, 0, 0, 1);
    }

    private static void lotBounds() {
        PaperMarks sure = six(0, 0, "l>0", 3);
        lot("both surely", sure, 1, ALL_SIX, 0, 1);
        lot("one surely, the other never", sure, ALL_SIX, 0, 1, 1);
        lot("one never, the other surely", sure, 0, 32, 1, 1);
        PaperMarks least = six(0, 1, "l>30?1", 3);
        lot("least odds twice", least, ALL_SIX, ALL_SIX, 16383, 1L << 27);
        lot("least odds and never", least, ALL_SIX, 0, 1, 16384);
        PaperMarks greatest = six(0, 1, "g>20;g>0?3", 3);
        lot("greatest odds twice", greatest, ALL_SIX, ALL_SIX, 16383, 1L << 27);
        lot("greatest odds and never", greatest, 0, ALL_SIX, 16383, 16384);
    }

    // ---- promise 14

    private static void rightRefusals() {
        for (State state : State.ALL) {
            Refusals.of(state, "right", n -> noRule(state), Refusals.within(1, 5), bits(state), part());
        }
    }

    private static void right(String what, PaperMarks x, int bar, int judges, long upper, long lower) {
        Due.fraction(what, x.right(bar, judges, 0), x.right(bar, judges, 1), upper, lower);
    }

    private static void rightOfNoPapers() {
        PaperMarks x = six(0, 1, "l>0");
        right("no papers", x, 1, ALL_SIX, 0, 1);
        right("no papers, nobody", x, 5, 0, 0, 1);
        x.paper(0, NONE);
        right("one paper that is not taken", x, 5, 0, 1, 1);
    }

    private static void rightAllAndNone() {
        PaperMarks x = six(0, 0, "l>29", 3, 4, 5, 2, 1, 0);
        right("all six", x, 3, ALL_SIX, 6, 1);
        right("nobody takes none: those below are right", x, 3, 0, 3, 1);
        PaperMarks wrong = six(0, 0, "l>0", 4, 4, 4, 4, 4, 4);
        right("all are taken and none should be", wrong, 5, ALL_SIX, 0, 1);
        right("all are taken and all should be", wrong, 4, ALL_SIX, 6, 1);
        right("none is taken and all should be", wrong, 1, 0, 0, 1);
        PaperMarks half = six(0, 0, "l>0?2", 1, 1, 1, 1, 1, 1);
        right("six halves together", half, 1, 1, 3, 1);
        PaperMarks most = six(0, 1, "g>20;g>0?3", 3, 3, 3, 3, 3, 5);
        right("five of the greatest odds, and a sure one", most, 3, ALL_SIX, 5 * 16383 + 16384, 16384);
    }

    private static void barIsWorthOrMore() {
        PaperMarks x = six(0, 0, "l>0", 0, 1, 2, 3, 4, 5);
        // All but worth 0 are taken.
        for (int bar = 1; bar <= 5; bar++) {
            right("bar " + bar, x, bar, 1, 7 - bar, 1);
            right("bar " + bar + " by nobody", x, bar, 0, bar, 1);
        }
    }

    // ---- promise 15

    private static void moreRefusals() {
        for (State state : State.ALL) {
            int all = state.judges() == 0 ? 0 : (1 << state.judges()) - 1;
            Refusals.of(state, "more", n -> among(n, all) ? OUTSIDE : noRule(state), Refusals.oneOf(state.judges()),
                Refusals.within(1, 5), bits(state), part());
        }
    }

    private static boolean among(int[] numbers, int all) {
        boolean known = numbers[0] >= 0 && numbers[0] < 6;
        return known && (numbers[2] & all & 1 << numbers[0]) != 0;
    }

    private static void more(String what, PaperMarks x, int judge, int bar, int judges, long upper, long lower) {
        Due.fraction(what, x.more(judge, bar, judges, 0), x.more(judge, bar, judges, 1), upper, lower);
    }

    private static void moreOfNothing() {
        PaperMarks x = six(0, 1, "l>0");
        more("no papers", x, 0, 1, 0, 0, 1);
        more("no papers, beside five", x, 5, 5, 31, 0, 1);
        PaperMarks own = new PaperMarks();
        own.judge(0, 0);
        own.paper(5, 0);
        Due.makeRule(own, "l>0", 1);
        more("the writer gives nothing", own, 0, 5, 0, 0, 1);
        Due.is("it is among them", own.more(0, 5, 1, 0), LOST + OUTSIDE);
        Due.is("nobody else is there", own.more(1, 5, 0, 0), LOST + UNKNOWN);
    }

    private static void moreBounds() {
        PaperMarks good = six(0, 0, "l>0", 4, 4, 4, 4, 4, 4);
        more("six papers more", good, 0, 4, 0, 6, 1);
        more("the last judge", good, 5, 1, 0, 6, 1);
        more("six papers fewer", good, 0, 5, 0, -6, 1);
        more("the sixth gives nothing more", good, 5, 4, 31, 0, 1);
        for (int judge = 0; judge < 6; judge++) {
            Due.is("among all", good.more(judge, 4, ALL_SIX, 0), LOST + OUTSIDE);
            Due.is("among itself", good.more(judge, 4, 1 << judge, 1), LOST + OUTSIDE);
            more("beside all others", good, judge, 4, ALL_SIX - (1 << judge), 0, 1);
        }
        // Beside five who must slip upwards, a sixth who must not slip downwards.
        PaperMarks least = new PaperMarks();
        for (int judge = 0; judge < 6; judge++) {
            least.judge(judge == 5 ? 1 : 0, 1);
        }
        least.paper(3, NONE);
        Due.makeRule(least, "l>30?1", 1);
        more("the least below 0", least, 5, 3, 31, -1, 16384);
        more("the least over 0", least, 5, 4, 31, 1, 16384);
        // With the sixth the odds are 1 of 16384, without it 1 of 4096.
        more("below 0", six(0, 1, "l>30?1", 3), 5, 3, 31, -3, 16384);
        more("over 0", six(0, 1, "l>30?1", 3), 5, 4, 31, 3, 16384);
    }

    // ---- promise 16

    private static void roundsRefusals() {
        for (State state : State.ALL) {
            Refusals.of(state, "rounds", n -> noRule(state), paper(state), bits(state), Refusals.within(1, 4),
                Refusals.within(0, 1), part());
        }
    }

    private static void rounds(String what, PaperMarks x, int judges, int r, int odds, long upper, long lower) {
        Due.fraction(what, x.rounds(0, judges, r, odds, 0), x.rounds(0, judges, r, odds, 1), upper, lower);
    }

    private static void roundsOfNobody() {
        PaperMarks x = new PaperMarks();
        x.paper(5, NONE);
        x.judge(0, 0);
        x.paper(5, 0);
        Due.makeRule(x, "l>0", 1);
        for (int r = 1; r <= 4; r++) {
            rounds("odds by nobody", x, 0, r, 0, 0, 1);
            rounds("marks of nobody", x, 0, r, 1, 0, 1);
            Due.fraction("odds by the writer alone", x.rounds(1, 1, r, 0, 0), x.rounds(1, 1, r, 0, 1), 0, 1);
            Due.fraction("marks of the writer alone", x.rounds(1, 1, r, 1, 0), x.rounds(1, 1, r, 1, 1), 0, 1);
        }
    }

    private static void roundsSurelyAndNever() {
        PaperMarks sure = six(0, 0, "l>0", 5);
        PaperMarks never = six(0, 0, "l>50", 5);
        for (int r = 1; r <= 4; r++) {
            rounds("surely taken", sure, ALL_SIX, r, 0, 1, 1);
            rounds("at once: marks of one round", sure, ALL_SIX, r, 1, 6, 1);
            rounds("never taken", never, ALL_SIX, r, 0, 0, 1);
            rounds("never: marks of all rounds", never, ALL_SIX, r, 1, 6 * r, 1);
            rounds("never: one judge", never, 32, r, 1, r, 1);
        }
    }

    private static void roundsBounds() {
        PaperMarks half = six(0, 0, "l>0?2", 5);
        rounds("once", half, 1, 1, 0, 1, 2);
        rounds("once, marks", half, ALL_SIX, 1, 1, 6, 1);
        rounds("four times", half, 1, 4, 0, 15, 16);
        rounds("four times, marks", half, ALL_SIX, 4, 1, 45, 4);
        PaperMarks least = six(0, 1, "l>30?1", 3);
        rounds("least odds once", least, ALL_SIX, 1, 0, 1, 16384);
        long missed = 16383L * 16383 * 16383;
        rounds("least odds four times", least, ALL_SIX, 4, 0, (1L << 56) - missed * 16383, 1L << 56);
        long times = (1L << 42) + 16383L * (1L << 28) + 16383L * 16383 * 16384 + missed;
        rounds("least odds four times, marks", least, ALL_SIX, 4, 1, 3 * times, 1L << 41);
        PaperMarks greatest = six(0, 1, "g>20;g>0?3", 3);
        rounds("greatest odds four times", greatest, ALL_SIX, 4, 0, (1L << 56) - 1, 1L << 56);
        long few = (1L << 42) + (1L << 28) + (1L << 14) + 1;
        rounds("greatest odds four times, marks", greatest, ALL_SIX, 4, 1, 3 * few, 1L << 41);
    }

    private static void askingChangesNothing() {
        for (State state : new State[] {State.SOME, State.FULL}) {
            int last = state.papers() - 1;
            int all = (1 << state.judges()) - 1;
            Look.unchanged("odds", state, x -> {
                x.taken(last, all, 0);
                x.lot(0, all, 1, 1);
                x.right(3, all, 0);
                x.more(0, 3, all - 1, 1);
                x.rounds(last, all, 4, 1, 0);
            });
        }
    }
}
