import java.math.BigInteger;

/** Promises 12 to 16: taken, lot, right, more, rounds. */
public final class OddsTest {
    private static final int UNKNOWN = PaperMarks.UNKNOWN, OUTSIDE = PaperMarks.OUTSIDE, STATE = PaperMarks.STATE;
    private static final int NONE = PaperMarks.NONE;

    public static void main(String[] args) {
        slips();
        marksAreHeldWithin();
        tiesWithTheWriter();
        coins();
        takenRefused();
        lots();
        rights();
        mores();
        roundsOdds();
        roundsMarks();
        sixJudgesFourRounds();
        Due.end();
    }

    private static void taken(PaperMarks x, int paper, int judges, long upper, long lower) {
        Due.fraction("taken(" + paper + ", " + judges + ")", x.taken(paper, judges, 0), x.taken(paper, judges, 1),
                upper, lower);
    }

    private static void slips() {
        PaperMarks x = new PaperMarks();
        x.judge(0, 0);
        x.judge(0, 1);
        x.judge(0, 2);
        x.judge(-1, 1);
        x.paper(3, NONE);
        Due.makeRule(x, "l>25", 1);
        taken(x, 0, 0, 0, 1);
        taken(x, 0, 1, 1, 1);
        taken(x, 0, 2, 3, 4);
        taken(x, 0, 4, 1, 2);
        taken(x, 0, 6, 3, 8);
        taken(x, 0, 7, 3, 8);
        taken(x, 0, 8, 1, 4);
        taken(x, 0, 15, 3, 32);
        // Of two that slip the mean is over 2.5 but for 2 with 2 (1/8) and 3 with 2 (1/4).
        Due.makeRule(x, "a>25", 1);
        taken(x, 0, 6, 5, 8);
        Due.makeRule(x, "g>35", 1);
        taken(x, 0, 6, 5, 8);
        Due.makeRule(x, "m>25", 1);
        taken(x, 0, 6, 3, 8);
    }

    private static void marksAreHeldWithin() {
        PaperMarks x = new PaperMarks();
        x.judge(2, 2);
        x.judge(0, 1);
        x.judge(-2, 1);
        x.judge(0, 2);
        x.paper(5, NONE);
        x.paper(0, NONE);
        Due.makeRule(x, "l>40", 1);
        taken(x, 0, 1, 1, 1);
        taken(x, 0, 2, 3, 4);
        taken(x, 0, 8, 1, 2);
        taken(x, 0, 4, 0, 1);
        Due.makeRule(x, "l>50", 1);
        taken(x, 0, 1, 0, 1);
        Due.makeRule(x, "g>0", 1);
        taken(x, 1, 4, 0, 1);
        taken(x, 1, 2, 1, 4);
        taken(x, 1, 8, 1, 2);
        taken(x, 1, 1, 1, 1);
    }

    private static void tiesWithTheWriter() {
        PaperMarks x = new PaperMarks();
        x.judge(0, 0);
        x.judge(0, 0);
        x.judge(0, 0);
        x.paper(3, 0);
        x.paper(3, NONE);
        Due.makeRule(x, "l>30", 1);
        taken(x, 0, 2, 0, 1);
        x.tie(1, 0, 1);
        taken(x, 0, 2, 1, 1);
        taken(x, 1, 2, 0, 1);
        taken(x, 0, 4, 0, 1);
        Due.makeRule(x, "l>20", 1);
        taken(x, 0, 4, 1, 1);
        x.tie(0, 2, -1);
        taken(x, 0, 4, 0, 1);
        taken(x, 1, 4, 1, 1);
        taken(x, 0, 2, 1, 1);
        // The writer does not mark its own: alone it is as nobody, beside others as not there.
        taken(x, 0, 1, 0, 1);
        taken(x, 0, 3, 1, 1);
        taken(x, 1, 1, 1, 1);
        // The marks that came do not matter here.
        x.mark(1, 0, 0);
        taken(x, 0, 3, 1, 1);
    }

    private static void coins() {
        PaperMarks x = new PaperMarks();
        x.judge(0, 1);
        x.paper(2, NONE);
        Due.makeRule(x, "a>25;a>15?1", 2);
        taken(x, 0, 1, 3, 8);
        Due.makeRule(x, "a>0?3", 1);
        taken(x, 0, 1, 3, 4);
        Due.makeRule(x, "a>10?2;a>0", 2);
        taken(x, 0, 1, 5, 8);
        Due.makeRule(x, "a>99", 1);
        taken(x, 0, 1, 0, 1);
    }

    private static void takenRefused() {
        PaperMarks x = new PaperMarks();
        x.judge(0, 0);
        x.judge(0, 0);
        x.paper(3, NONE);
        Due.is("UNKNOWN before OUTSIDE", x.taken(1, 4, 2), PaperMarks.LOST + UNKNOWN);
        Due.is("UNKNOWN before STATE", x.taken(-1, 0, 0), PaperMarks.LOST + UNKNOWN);
        Due.is("OUTSIDE before STATE", x.taken(0, 4, 0), PaperMarks.LOST + OUTSIDE);
        Due.is("part before STATE", x.taken(0, 1, 2), PaperMarks.LOST + OUTSIDE);
        Due.lost("no rule", x.taken(0, 1, 0), x.taken(0, 1, 1), STATE);
        Due.makeRule(x, "a>0", 1);
        Due.lost("no paper", x.taken(1, 1, 0), x.taken(NONE, 1, 1), UNKNOWN);
        Due.lost("no such judges", x.taken(0, 4, 0), x.taken(0, -1, 1), OUTSIDE);
        Due.lost("no such judges", x.taken(0, 64, 0), x.taken(0, Integer.MIN_VALUE, 1), OUTSIDE);
        Due.lost("part", x.taken(0, 1, 2), x.taken(0, 1, -1), OUTSIDE);
        taken(x, 0, 3, 1, 1);
    }

    private static void lot(PaperMarks x, int one, int two, long upper, long lower) {
        Due.fraction("lot(" + one + ", " + two + ")", x.lot(0, one, two, 0), x.lot(0, one, two, 1), upper, lower);
        Due.fraction("lot(" + two + ", " + one + ")", x.lot(0, two, one, 0), x.lot(0, two, one, 1), upper, lower);
    }

    private static void lots() {
        PaperMarks x = new PaperMarks();
        x.judge(0, 1);
        x.judge(0, 2);
        x.judge(0, 0);
        x.paper(3, 2);
        Due.lost("no rule", x.lot(0, 1, 1, 0), x.lot(0, 1, 1, 1), STATE);
        Due.is("OUTSIDE before STATE", x.lot(0, 8, 1, 0), PaperMarks.LOST + OUTSIDE);
        Due.makeRule(x, "l>25", 1);
        lot(x, 1, 2, 1, 2);
        lot(x, 1, 1, 3, 8);
        lot(x, 2, 2, 1, 2);
        lot(x, 3, 1, 9, 16);
        lot(x, 0, 1, 3, 4);
        lot(x, 0, 0, 0, 1);
        lot(x, 4, 5, 3, 4);
        Due.lost("no paper", x.lot(1, 1, 1, 0), x.lot(-1, 9, 9, 9), UNKNOWN);
        Due.lost("no such judges", x.lot(0, 8, 1, 0), x.lot(0, 1, 8, 1), OUTSIDE);
        Due.lost("no such judges", x.lot(0, -1, 1, 0), x.lot(0, 1, -1, 1), OUTSIDE);
        Due.lost("part", x.lot(0, 1, 1, 2), x.lot(0, 1, 1, -1), OUTSIDE);
    }

    private static void right(PaperMarks x, int bar, int judges, long upper, long lower) {
        Due.fraction("right(" + bar + ", " + judges + ")", x.right(bar, judges, 0), x.right(bar, judges, 1),
                upper, lower);
    }

    private static PaperMarks threePapers() {
        PaperMarks x = new PaperMarks();
        x.judge(0, 1);
        x.judge(1, 0);
        x.judge(-1, 1);
        x.paper(3, NONE);
        x.paper(2, 1);
        x.paper(4, 0);
        return x;
    }

    private static void rights() {
        PaperMarks x = threePapers();
        Due.lost("no rule", x.right(3, 1, 0), x.right(3, 1, 1), STATE);
        Due.is("OUTSIDE before STATE", x.right(0, 1, 0), PaperMarks.LOST + OUTSIDE);
        Due.makeRule(x, "l>25", 1);
        // Judge 0 takes paper 0 with 3/4, paper 1 with 1/4, and none of its own.
        right(x, 3, 1, 3, 2);
        right(x, 1, 1, 1, 1);
        right(x, 5, 1, 2, 1);
        right(x, 2, 1, 1, 1);
        right(x, 4, 1, 1, 1);
        // Judge 1 takes papers 0 and 2.
        right(x, 3, 2, 3, 1);
        right(x, 3, 0, 1, 1);
        right(x, 1, 0, 0, 1);
        right(x, 5, 0, 3, 1);
        Due.lost("bar", x.right(0, 1, 0), x.right(6, 1, 1), OUTSIDE);
        Due.lost("judges", x.right(3, 8, 0), x.right(3, -1, 1), OUTSIDE);
        Due.lost("part", x.right(3, 1, 2), x.right(3, 1, -1), OUTSIDE);
        PaperMarks none = new PaperMarks();
        Due.makeRule(none, "l>25", 1);
        Due.fraction("right of no papers", none.right(3, 0, 0), none.right(3, 0, 1), 0, 1);
    }

    private static void more(PaperMarks x, int judge, int bar, int judges, long upper, long lower) {
        Due.fraction("more(" + judge + ", " + bar + ", " + judges + ")", x.more(judge, bar, judges, 0),
                x.more(judge, bar, judges, 1), upper, lower);
    }

    private static void mores() {
        PaperMarks x = threePapers();
        Due.lost("no rule", x.more(0, 3, 2, 0), x.more(0, 3, 2, 1), STATE);
        Due.is("OUTSIDE before STATE", x.more(0, 3, 1, 0), PaperMarks.LOST + OUTSIDE);
        Due.is("UNKNOWN before OUTSIDE", x.more(3, 0, 9, 9), PaperMarks.LOST + UNKNOWN);
        Due.makeRule(x, "l>25", 1);
        more(x, 0, 3, 0, 1, 2);
        more(x, 1, 3, 0, 2, 1);
        // With both, paper 0 is taken with 3/4, paper 1 (by judge 0 alone) with 1/4, paper 2 surely.
        more(x, 0, 3, 2, -1, 2);
        more(x, 1, 3, 1, 1, 1);
        // Beside judge 0 alone: 3/16 for 3/4 of paper 0, nothing for 1/4 of paper 1, 3/4 of paper 2.
        more(x, 2, 1, 1, -1, 16);
        Due.lost("no judge", x.more(3, 3, 0, 0), x.more(-1, 3, 0, 1), UNKNOWN);
        Due.lost("among them", x.more(0, 3, 1, 0), x.more(2, 3, 7, 1), OUTSIDE);
        Due.lost("bar", x.more(0, 0, 0, 0), x.more(0, 6, 0, 1), OUTSIDE);
        Due.lost("judges", x.more(0, 3, 8, 0), x.more(0, 3, -2, 1), OUTSIDE);
        Due.lost("part", x.more(0, 3, 0, 2), x.more(0, 3, 0, -1), OUTSIDE);
    }

    private static void rounds(PaperMarks x, int judges, int r, int what, long upper, long lower) {
        Due.fraction("rounds(0, " + judges + ", " + r + ", " + what + ")", x.rounds(0, judges, r, what, 0),
                x.rounds(0, judges, r, what, 1), upper, lower);
    }

    private static PaperMarks halfAndWriter() {
        PaperMarks x = new PaperMarks();
        x.judge(0, 2);
        x.judge(0, 0);
        x.judge(0, 0);
        x.paper(3, 2);
        return x;
    }

    private static void roundsOdds() {
        PaperMarks x = halfAndWriter();
        Due.lost("no rule", x.rounds(0, 1, 1, 0, 0), x.rounds(0, 1, 1, 1, 1), STATE);
        Due.is("OUTSIDE before STATE", x.rounds(0, 1, 5, 0, 0), PaperMarks.LOST + OUTSIDE);
        Due.makeRule(x, "l>25", 1);
        rounds(x, 1, 1, 0, 1, 2);
        rounds(x, 1, 2, 0, 3, 4);
        rounds(x, 1, 3, 0, 7, 8);
        rounds(x, 1, 4, 0, 15, 16);
        rounds(x, 2, 4, 0, 1, 1);
        rounds(x, 4, 4, 0, 0, 1);
        rounds(x, 0, 4, 0, 0, 1);
        Due.lost("no paper", x.rounds(1, 1, 1, 0, 0), x.rounds(-1, 9, 9, 9, 9), UNKNOWN);
        Due.lost("judges", x.rounds(0, 8, 1, 0, 0), x.rounds(0, -1, 1, 0, 1), OUTSIDE);
        Due.lost("r", x.rounds(0, 1, 0, 0, 0), x.rounds(0, 1, 5, 0, 1), OUTSIDE);
        Due.lost("what", x.rounds(0, 1, 1, 2, 0), x.rounds(0, 1, 1, -1, 1), OUTSIDE);
        Due.lost("part", x.rounds(0, 1, 1, 0, 2), x.rounds(0, 1, 1, 0, -1), OUTSIDE);
    }

    private static void roundsMarks() {
        PaperMarks x = halfAndWriter();
        Due.makeRule(x, "l>25", 1);
        rounds(x, 1, 1, 1, 1, 1);
        rounds(x, 1, 2, 1, 3, 2);
        rounds(x, 1, 4, 1, 15, 8);
        rounds(x, 3, 2, 1, 3, 1);
        rounds(x, 7, 2, 1, 3, 1);
        rounds(x, 2, 4, 1, 1, 1);
        rounds(x, 4, 4, 1, 0, 1);
        rounds(x, 0, 1, 1, 0, 1);
        Due.makeRule(x, "l>99", 1);
        rounds(x, 3, 4, 1, 8, 1);
    }

    private static void sixJudgesFourRounds() {
        PaperMarks x = new PaperMarks();
        for (int judge = 0; judge < 6; judge++) {
            x.judge(0, 1);
        }
        x.paper(3, NONE);
        Due.makeRule(x, "l>25?1", 1);
        taken(x, 0, 63, 729, 16384);
        BigInteger all = BigInteger.valueOf(16384).pow(4);
        BigInteger missed = BigInteger.valueOf(16384 - 729).pow(4);
        rounds(x, 63, 4, 0, all.subtract(missed).longValueExact(), all.longValueExact());
        long times = 0;
        for (int before = 0; before < 4; before++) {
            times += BigInteger.valueOf(16384 - 729).pow(before)
                    .multiply(BigInteger.valueOf(16384).pow(3 - before)).longValueExact();
        }
        // 6 and the power of 2 below share a 2, and no more: the sum is odd.
        rounds(x, 63, 4, 1, 3 * times, 1L << 41);
        Due.fraction("lot of six and six", x.lot(0, 63, 63, 0), x.lot(0, 63, 63, 1), 729L * 15655, 1L << 27);
        Due.fraction("more of the sixth", x.more(5, 3, 31, 0), x.more(5, 3, 31, 1), -243, 16384);
    }
}
