/** The boundary cases of promises 24 to 27: bid, match, held, told. */
public final class MatchYearsEdgesTest {
    private static final int UNKNOWN = PaperMarks.UNKNOWN, OUTSIDE = PaperMarks.OUTSIDE, NO = PaperMarks.NO;
    private static final int NONE = PaperMarks.NONE;

    public static void main(String[] args) {
        bidRefusals();
        bidBounds();
        allBidsAreApart();
        matchRefusals();
        matchOfNoPapers();
        matchOfNoJudges();
        matchThatJustFits();
        matchOfEachSize();
        noWriterAndNoFoe();
        mostBidsThereCanBe();
        firstOfSeveralByPaper0First();
        onePaperShiftsAllOthers();
        heldRefusals();
        heldOfNothing();
        heldOfAllPairs();
        alikeOnesDoNotCount();
        laterBoundsCount();
        meansAreHeldExactly();
        toldRefusals();
        toldOfNothing();
        toldAtMost();
        askingChangesNothing();
        Due.end();
    }

    private static PaperMarks judgesAndPapers(int judges, int papers) {
        PaperMarks x = new PaperMarks();
        for (int i = 0; i < judges; i++) {
            x.judge(0, 0);
        }
        for (int i = 0; i < papers; i++) {
            x.paper(0, NONE);
        }
        return x;
    }

    // ---- promise 24

    private static void bidRefusals() {
        for (State state : State.ALL) {
            Refusals.of(state, "bid", Refusals.oneOf(state.judges()), Refusals.oneOf(state.papers()),
                Refusals.within(0, 3));
        }
    }

    private static void bidBounds() {
        PaperMarks x = judgesAndPapers(1, 1);
        int was = 0;
        for (int v : new int[] {0, 3, 3, 1, 2, 0, 0}) {
            Due.is("it was " + was, x.bid(0, 0, v), was);
            was = v;
        }
        Due.is("-1 is no bid here", x.bid(0, 0, -1), OUTSIDE);
        Due.is("4", x.bid(0, 0, 4), OUTSIDE);
        Due.is("still 0", x.bid(0, 0, 0), 0);
    }

    private static void allBidsAreApart() {
        PaperMarks x = judgesAndPapers(6, 6);
        for (int i = 0; i < 36; i++) {
            Due.is("0 at first", x.bid(i / 6, i % 6, i * 7 % 4), 0);
        }
        for (int i = 0; i < 36; i++) {
            Due.is("bid of " + i / 6 + " for " + i % 6, x.bid(i / 6, i % 6, 0), i * 7 % 4);
        }
    }

    // ---- promise 25

    private static void matchRefusals() {
        Refusals.Argument k = Refusals.within(1, 3);
        Refusals.Argument l = Refusals.within(1, 4);
        // With three judges, one of them the writer and one its foe, paper 0 has one who may.
        for (State state : new State[] {State.SOME, State.NO_RULE}) {
            Refusals.of(state, "match", n -> n[0] > 1 ? NO : 0, k, l, Refusals.oneOfOr(state.papers(), -1));
        }
        Refusals.of(State.NOTHING, "match", k, l, Refusals.oneOfOr(0, -1));
        // Six judges take six places under a load of 1, and 24 under 4.
        Refusals.of(State.FULL, "match", n -> n[0] == 3 && n[1] == 1 ? NO : 0, k, l, Refusals.oneOfOr(6, -1));
    }

    private static void matchOfNoPapers() {
        for (int judges : new int[] {0, 6}) {
            PaperMarks x = judgesAndPapers(judges, 0);
            for (int k = 1; k <= 3; k++) {
                for (int l = 1; l <= 4; l++) {
                    Due.is("nothing to give", x.match(k, l, -1), 0);
                    Due.is("no such paper", x.match(k, l, 0), UNKNOWN);
                }
            }
            Due.is("k 0", x.match(0, 1, -1), OUTSIDE);
            Due.is("l 0", x.match(1, 0, -1), OUTSIDE);
            Due.is("UNKNOWN first", x.match(0, 0, 0), UNKNOWN);
        }
    }

    private static void matchOfNoJudges() {
        PaperMarks x = judgesAndPapers(0, 1);
        Due.is("nobody to give it to", x.match(1, 4, -1), NO);
        Due.is("nor of the paper", x.match(1, 4, 0), NO);
        Due.is("OUTSIDE before NO", x.match(4, 4, 0), OUTSIDE);
        Due.is("OUTSIDE before NO", x.match(1, 5, -1), OUTSIDE);
        Due.is("UNKNOWN before NO", x.match(1, 4, 1), UNKNOWN);
        Due.is("UNKNOWN before NO", x.match(1, 4, -2), UNKNOWN);
    }

    /** Without writers, foes and bids there is a match just if judges and loads are enough. */
    private static void matchThatJustFits() {
        for (int judges = 0; judges <= 6; judges++) {
            for (int papers = 1; papers <= 6; papers++) {
                PaperMarks x = judgesAndPapers(judges, papers);
                for (int k = 1; k <= 3; k++) {
                    for (int l = 1; l <= 4; l++) {
                        boolean fits = k <= judges && k * papers <= judges * Math.min(l, papers);
                        String what = k + " of " + judges + " judges, " + papers + " papers, load " + l;
                        Due.is(what, x.match(k, l, -1), fits ? 0 : NO);
                        Due.is(what + ", the last paper", x.match(k, l, papers - 1) == NO ? 0 : 1, fits ? 1 : 0);
                    }
                }
            }
        }
    }

    private static void matchIs(String what, PaperMarks x, int k, int l, int bids, int... sets) {
        Due.is(what + ": bids", x.match(k, l, -1), bids);
        for (int paper = 0; paper < sets.length; paper++) {
            Due.is(what + ": paper " + paper, x.match(k, l, paper), sets[paper]);
        }
    }

    private static void matchOfEachSize() {
        PaperMarks one = judgesAndPapers(1, 1);
        matchIs("one and one", one, 1, 1, 0, 1);
        Due.is("two of one", one.match(2, 4, -1), NO);
        PaperMarks three = judgesAndPapers(3, 1);
        matchIs("all three", three, 3, 1, 0, 7);
        PaperMarks four = judgesAndPapers(3, 4);
        matchIs("all three, load 4", four, 3, 4, 0, 7, 7, 7, 7);
        Due.is("load 3 is too little", four.match(3, 3, -1), NO);
        PaperMarks six = judgesAndPapers(6, 6);
        matchIs("k 1, l 1", six, 1, 1, 0, 1, 2, 4, 8, 16, 32);
        matchIs("k 3, l 3", six, 3, 3, 0, 7, 7, 7, 56, 56, 56);
        matchIs("k 3, l 4", six, 3, 4, 0, 7, 7, 7, 7, 56, 56);
        matchIs("k 2, l 2", six, 2, 2, 0, 3, 3, 12, 12, 48, 48);
        Due.is("k 3, l 2", six.match(3, 2, -1), NO);
        Due.is("k 2, l 1", six.match(2, 1, 5), NO);
    }

    private static void noWriterAndNoFoe() {
        PaperMarks x = new PaperMarks();
        x.judge(0, 0);
        x.paper(0, 0);
        Due.is("the writer alone", x.match(1, 1, 0), NO);
        x.judge(0, 0);
        matchIs("another one", x, 1, 1, 0, 2);
        x.tie(1, 0, -1);
        Due.is("a foe", x.match(1, 1, 0), NO);
        x.tie(1, 0, 1);
        matchIs("a friend", x, 1, 1, 0, 2);
        x.bid(0, 0, 3);
        matchIs("the writer's own bid does not count", x, 1, 1, 0, 2);
        x.judge(0, 0);
        x.tie(1, 2, -1);
        matchIs("foes of each other may both", x, 2, 1, 0, 6);
        PaperMarks free = judgesAndPapers(2, 1);
        free.tie(0, 1, -1);
        matchIs("no writer, no foes of it", free, 2, 1, 0, 3);
    }

    private static void mostBidsThereCanBe() {
        PaperMarks x = judgesAndPapers(6, 6);
        for (int i = 0; i < 36; i++) {
            x.bid(i / 6, i % 6, 3);
        }
        matchIs("18 bids of 3", x, 3, 3, 54, 7, 7, 7, 56, 56, 56);
        matchIs("6 bids of 3", x, 1, 1, 18, 1, 2, 4, 8, 16, 32);
        matchIs("load 4", x, 1, 4, 18, 1, 1, 1, 1, 2, 2);
    }

    private static void firstOfSeveralByPaper0First() {
        PaperMarks x = judgesAndPapers(6, 2);
        x.bid(5, 0, 1);
        x.bid(5, 1, 1);
        // Judge 5 with paper 1 leaves the least set, 1, to paper 0.
        matchIs("paper 0 first", x, 1, 1, 1, 1, 32);
        x.bid(5, 0, 2);
        matchIs("more bids before that", x, 1, 1, 2, 32, 1);
        PaperMarks y = judgesAndPapers(4, 1);
        y.bid(3, 0, 1);
        y.bid(1, 0, 1);
        matchIs("the lesser bits", y, 1, 1, 1, 2);
        matchIs("both, and the least beside them", y, 3, 1, 2, 11);
        PaperMarks z = judgesAndPapers(4, 1);
        z.bid(0, 0, 1);
        z.bid(3, 0, 1);
        z.bid(1, 0, 1);
        z.bid(2, 0, 1);
        matchIs("sets as bits: 0 and 1 are least", z, 2, 1, 2, 3);
        z.bid(0, 0, 0);
        matchIs("sets as bits: 1 and 2", z, 2, 1, 2, 6);
    }

    /**
     * Papers 0 to 4 would all have the judge above theirs, but paper 5 can have none but judge 5. So paper
     * 4 has to take judge 4, and paper 3 judge 3; then that all others go one down, too, is as good as that
     * paper 2 alone takes judge 0, and is the first by paper 0.
     */
    private static void onePaperShiftsAllOthers() {
        PaperMarks x = judgesAndPapers(6, 3);
        x.paper(0, 2);
        x.paper(0, 0);
        x.paper(0, 1);
        int[][] foes = {{0, 1}, {0, 2}, {0, 3}, {1, 2}, {1, 3}, {1, 4}, {2, 5}};
        for (int[] pair : foes) {
            x.tie(pair[0], pair[1], -1);
        }
        for (int paper = 0; paper < 5; paper++) {
            x.bid(paper + 1, paper, 3);
            x.bid(paper, paper, 2);
        }
        matchIs("one down", x, 1, 1, 10, 1, 2, 4, 8, 16, 32);
        x.bid(0, 2, 1);
        matchIs("paper 2 alone", x, 1, 1, 11, 2, 4, 1, 8, 16, 32);
        x.tie(1, 0, 0);
        matchIs("paper 5 may have judge 0", x, 1, 1, 15, 2, 4, 8, 16, 32, 1);
    }

    // ---- promise 26

    private static void heldRefusals() {
        for (State state : State.ALL) {
            Refusals.of(state, "held", Refusals.within(0, 1));
        }
    }

    private static void held(String what, PaperMarks x, int as, int round) {
        Due.is(what + ": as the numbers", x.held(0), as);
        Due.is(what + ": the other way round", x.held(1), round);
    }

    private static void heldOfNothing() {
        PaperMarks x = new PaperMarks();
        held("a new object", x, 0, 0);
        x.judge(0, 0);
        x.paper(0, NONE);
        x.mark(0, 0, 3);
        x.set(2, 0, 3);
        held("one paper is no pair", x, 0, 0);
        x.paper(0, NONE);
        held("neither mark nor number", x, 0, 0);
        x.mark(0, 1, 2);
        held("no number", x, 0, 0);
        x.mark(0, 1, -1);
        x.set(2, 1, 2);
        held("no mark", x, 0, 0);
        x.mark(0, 1, 2);
        held("both", x, 1, 0);
        x.mark(0, 1, -1);
        held("the mark went", x, 0, 0);
        x.mark(0, 1, 5);
        held("the other way round", x, 0, 1);
        x.set(2, 1, -1);
        held("the number went", x, 0, 0);
    }

    private static void heldOfAllPairs() {
        PaperMarks x = judgesAndPapers(6, 6);
        for (int paper = 0; paper < 6; paper++) {
            x.mark(5, paper, paper);
            x.set(2, paper, paper + 4);
        }
        held("all pairs stand", x, 15, 0);
        for (int paper = 0; paper < 6; paper++) {
            x.set(2, paper, 9 - paper);
        }
        held("all pairs the other way round", x, 0, 15);
        x.set(2, 5, 9);
        held("the last paper at the head, alike with paper 0", x, 4, 10);
    }

    private static void alikeOnesDoNotCount() {
        PaperMarks x = judgesAndPapers(1, 2);
        x.mark(0, 0, 3);
        x.mark(0, 1, 3);
        x.set(2, 0, 4);
        x.set(2, 1, 5);
        held("alike marks", x, 0, 0);
        x.mark(0, 1, 4);
        held("neither", x, 1, 0);
        x.set(2, 0, 5);
        held("alike numbers", x, 0, 0);
        x.mark(0, 0, 4);
        held("both alike", x, 0, 0);
    }

    private static void laterBoundsCount() {
        PaperMarks x = judgesAndPapers(1, 2);
        x.mark(0, 0, 0);
        x.mark(0, 1, 5);
        x.set(2, 0, 0);
        x.set(2, 1, 9);
        held("0 is a number and a mark", x, 1, 0);
        x.set(2, 0, 9);
        x.set(2, 1, 0);
        held("and round", x, 0, 1);
        x.set(2, 1, -1);
        held("none is not a low number", x, 0, 0);
        x.set(2, 1, 0);
        x.set(2, 0, -1);
        held("nor that of the first paper", x, 0, 0);
        x.mark(0, 0, -1);
        x.set(2, 0, 9);
        held("no marks are not low ones", x, 0, 0);
    }

    private static void meansAreHeldExactly() {
        PaperMarks x = judgesAndPapers(6, 2);
        for (int judge = 0; judge < 6; judge++) {
            x.mark(judge, 0, judge == 0 ? 4 : 5);
        }
        for (int judge = 0; judge < 5; judge++) {
            x.mark(judge, 1, judge == 0 ? 4 : 5);
        }
        x.set(2, 0, 1);
        x.set(2, 1, 0);
        held("29 sixths are over 24 fifths", x, 1, 0);
        x.mark(5, 0, 4);
        held("28 sixths are under 24 fifths", x, 0, 1);
        x.mark(0, 1, 5);
        x.mark(0, 0, 5);
        x.mark(5, 0, 5);
        held("30 sixths are 25 fifths", x, 0, 0);
    }

    // ---- promise 27

    private static void toldRefusals() {
        for (State state : State.ALL) {
            Refusals.of(state, "told", Refusals.within(0, 4));
        }
    }

    private static void toldOfNothing() {
        PaperMarks x = new PaperMarks();
        for (int what = 0; what <= 4; what++) {
            Due.is("told(" + what + ")", x.told(what), 0);
        }
        Due.is("told(-1)", x.told(-1), OUTSIDE);
        Due.is("told(5)", x.told(5), OUTSIDE);
    }

    private static void toldAtMost() {
        PaperMarks x = judgesAndPapers(6, 6);
        for (int i = 0; i < 36; i++) {
            x.mark(i / 6, i % 6, 0);
        }
        Due.makeRule(x, "a>1;a>1;a>1;a>1;a>1;a>1;a>1;a>1;a>1;a>12", 10);
        Due.say(x, State.FORTY);
        x.judge(0, 0);
        x.paper(0, NONE);
        x.say('a');
        int[] most = {6, 6, 40, 10, 36};
        for (int what = 0; what <= 4; what++) {
            Due.is("told(" + what + ") at most", x.told(what), most[what]);
        }
    }

    private static void askingChangesNothing() {
        for (State state : State.ALL) {
            Look.unchanged("matches and counts", state, x -> {
                x.match(3, 4, -1);
                x.match(1, 1, 0);
                x.match(2, 1, -1);
                x.held(0);
                x.held(1);
                x.told(4);
            });
        }
    }
}
