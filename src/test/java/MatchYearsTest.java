/** Promises 24 to 27: bid, match, held, told. */
public final class MatchYearsTest {
    private static final int UNKNOWN = PaperMarks.UNKNOWN, OUTSIDE = PaperMarks.OUTSIDE;
    private static final int NO = PaperMarks.NO, NONE = PaperMarks.NONE;

    public static void main(String[] args) {
        bids();
        matchRefused();
        firstOfSeveral();
        mostBids();
        writersAndFoes();
        loads();
        chains();
        held();
        heldIsNotCut();
        told();
        Due.end();
    }

    private static PaperMarks judgesAndPapers(int judges, int papers) {
        PaperMarks x = new PaperMarks();
        for (int i = 0; i < judges; i++) {
            x.judge(0, 0);
        }
        for (int i = 0; i < papers; i++) {
            x.paper(0, NONE);
        }
        return x;
    }

    private static void matchIs(String what, PaperMarks x, int k, int l, int bids, int... sets) {
        Due.is(what + ": bids", x.match(k, l, -1), bids);
        for (int paper = 0; paper < sets.length; paper++) {
            Due.is(what + ": paper " + paper, x.match(k, l, paper), sets[paper]);
        }
    }

    private static void bids() {
        PaperMarks x = judgesAndPapers(2, 3);
        Due.is("0 at first", x.bid(1, 2, 3), 0);
        Due.is("it was 3", x.bid(1, 2, 1), 3);
        Due.is("another one", x.bid(0, 2, 2), 0);
        Due.is("v 4", x.bid(1, 2, 4), OUTSIDE);
        Due.is("v -1", x.bid(1, 2, -1), OUTSIDE);
        Due.is("no judge", x.bid(2, 2, 0), UNKNOWN);
        Due.is("judge -1", x.bid(-1, 2, 0), UNKNOWN);
        Due.is("no paper", x.bid(1, 3, 0), UNKNOWN);
        Due.is("paper -1", x.bid(1, -1, 0), UNKNOWN);
        Due.is("UNKNOWN before OUTSIDE", x.bid(2, 2, 4), UNKNOWN);
        Due.is("unchanged", x.bid(1, 2, 0), 1);
        Due.is("0 again", x.bid(1, 2, 0), 0);
        x.paper(0, 0);
        Due.is("a writer may bid for its own", x.bid(0, 3, 3), 0);
        Due.is("and that stands", x.bid(0, 3, 0), 3);
    }

    private static void matchRefused() {
        PaperMarks x = judgesAndPapers(4, 1);
        Due.is("k 0", x.match(0, 1, -1), OUTSIDE);
        Due.is("k 4", x.match(4, 4, -1), OUTSIDE);
        Due.is("l 0", x.match(1, 0, 0), OUTSIDE);
        Due.is("l 5", x.match(1, 5, 0), OUTSIDE);
        Due.is("UNKNOWN before OUTSIDE", x.match(0, 0, 1), UNKNOWN);
        Due.is("paper -2", x.match(1, 1, -2), UNKNOWN);
        Due.is("paper NONE", x.match(1, 1, NONE), UNKNOWN);
        matchIs("three of four", x, 3, 1, 0, 7);
        PaperMarks nobody = judgesAndPapers(0, 1);
        Due.is("no judges", nobody.match(1, 4, -1), NO);
        Due.is("no judges, of a paper", nobody.match(1, 4, 0), NO);
        PaperMarks nothing = judgesAndPapers(3, 0);
        Due.is("no papers", nothing.match(3, 1, -1), 0);
        Due.is("no papers, of a paper", nothing.match(3, 1, 0), UNKNOWN);
    }

    private static void firstOfSeveral() {
        matchIs("one each", judgesAndPapers(6, 6), 1, 1, 0, 1, 2, 4, 8, 16, 32);
        matchIs("three twice", judgesAndPapers(6, 4), 3, 2, 0, 7, 7, 56, 56);
        matchIs("two, three times", judgesAndPapers(4, 6), 2, 3, 0, 3, 3, 3, 12, 12, 12);
        matchIs("loads leave a mixture", judgesAndPapers(3, 3), 2, 2, 0, 3, 5, 6);
        PaperMarks x = judgesAndPapers(3, 2);
        x.bid(0, 1, 2);
        x.bid(1, 1, 2);
        matchIs("alike bids: paper 0's set first", x, 1, 1, 2, 1, 2);
        x.bid(2, 0, 1);
        matchIs("a bid before the order", x, 1, 1, 3, 4, 1);
    }

    private static void mostBids() {
        PaperMarks x = judgesAndPapers(3, 3);
        x.bid(0, 0, 3);
        x.bid(0, 1, 2);
        x.bid(1, 0, 2);
        matchIs("not the greatest bid first", x, 1, 1, 4, 2, 1, 4);
        matchIs("both, with more load", x, 1, 2, 5, 1, 1, 2);
        x.bid(2, 0, 3);
        matchIs("two each", x, 2, 2, 8, 5, 3, 6);
    }

    private static void writersAndFoes() {
        PaperMarks x = new PaperMarks();
        for (int i = 0; i < 3; i++) {
            x.judge(0, 0);
        }
        x.paper(0, 0);
        x.paper(0, 1);
        x.bid(0, 0, 3);
        x.bid(1, 1, 3);
        matchIs("no writer marks", x, 1, 1, 0, 2, 1);
        x.tie(0, 1, 1);
        matchIs("friends may", x, 1, 1, 0, 2, 1);
        x.tie(0, 2, -1);
        matchIs("a foe of paper 0's writer", x, 1, 2, 0, 2, 1);
        Due.is("two for paper 0: none", x.match(2, 4, -1), NO);
        Due.is("none of any paper", x.match(2, 4, 1), NO);
        x.tie(1, 0, -1);
        Due.is("all are foes", x.match(1, 4, -1), NO);
        x.tie(0, 2, 0);
        matchIs("2 for both", x, 1, 2, 0, 4, 4);
        Due.is("2 for both is a load of 2", x.match(1, 1, -1), NO);
    }

    private static void loads() {
        PaperMarks x = judgesAndPapers(1, 5);
        Due.is("five under a load of 4", x.match(1, 4, 0), NO);
        PaperMarks y = judgesAndPapers(1, 4);
        matchIs("four under a load of 4", y, 1, 4, 0, 1, 1, 1, 1);
        Due.is("four under a load of 3", y.match(1, 3, 0), NO);
        PaperMarks z = judgesAndPapers(2, 6);
        for (int paper = 0; paper < 6; paper++) {
            z.bid(1, paper, 3);
        }
        matchIs("four with bids, two without", z, 1, 4, 12, 1, 1, 2, 2, 2, 2);
        matchIs("three and three", z, 1, 3, 9, 1, 1, 1, 2, 2, 2);
        Due.is("two and two are not six", z.match(1, 2, -1), NO);
        matchIs("six judges, three each, all loads", judgesAndPapers(6, 6), 3, 3, 0, 7, 7, 7, 56, 56, 56);
    }

    /** Each paper's better judge is wanted by the next one still more: all must shift. */
    private static void chains() {
        PaperMarks x = judgesAndPapers(6, 6);
        for (int paper = 0; paper < 6; paper++) {
            x.bid(5 - paper, paper, 2);
            if (paper < 5) {
                x.bid(4 - paper, paper, 2);
            }
        }
        matchIs("down", x, 1, 1, 12, 32, 16, 8, 4, 2, 1);
        x.bid(0, 5, 0);
        x.bid(5, 5, 1);
        matchIs("shifted", x, 1, 1, 11, 16, 8, 4, 2, 1, 32);
    }

    private static void held() {
        PaperMarks x = judgesAndPapers(2, 4);
        Due.is("what 2", x.held(2), OUTSIDE);
        Due.is("what -1", x.held(-1), OUTSIDE);
        for (int paper = 0; paper < 3; paper++) {
            x.mark(0, paper, paper + 1);
        }
        Due.is("no numbers", x.held(0), 0);
        x.set(2, 0, 0);
        Due.is("one number", x.held(0), 0);
        x.set(2, 1, 1);
        Due.is("one pair", x.held(0), 1);
        Due.is("none round", x.held(1), 0);
        x.set(2, 2, 9);
        x.set(2, 3, 9);
        Due.is("three pairs, paper 3 has no marks", x.held(0), 3);
        x.set(2, 2, 0);
        Due.is("alike numbers do not count", x.held(0), 1);
        Due.is("one is the other way round", x.held(1), 1);
        x.mark(0, 2, 2);
        Due.is("alike marks do not count", x.held(1), 0);
        Due.is("alike marks: the first pair stands", x.held(0), 1);
        x.mark(1, 3, 0);
        Due.is("0 is a mark: over 1 and 0, 2", x.held(1), 3);
        x.set(2, 3, -1);
        Due.is("a number goes", x.held(1), 0);
    }

    private static void heldIsNotCut() {
        PaperMarks x = judgesAndPapers(3, 2);
        x.mark(0, 0, 3);
        x.mark(1, 0, 3);
        x.mark(2, 0, 4);
        x.mark(0, 1, 3);
        x.set(2, 0, 5);
        x.set(2, 1, 4);
        Due.is("10 thirds are over 3", x.held(0), 1);
        x.mark(1, 1, 4);
        Due.is("10 thirds are under 7 halves", x.held(0), 0);
        Due.is("10 thirds are under 7 halves, round", x.held(1), 1);
        x.mark(1, 1, -1);
        x.mark(0, 0, 2);
        Due.is("9 thirds are 3", x.held(0) + x.held(1), 0);
    }

    private static void told() {
        PaperMarks x = judgesAndPapers(3, 2);
        x.mark(0, 0, 0);
        x.mark(1, 1, 5);
        x.mark(2, 1, 5);
        x.mark(2, 0, 1);
        Due.makeRule(x, "a>1;m>2;l>3;g>4;a>5", 5);
        for (int i = 0; i < 7; i++) {
            x.say('!');
        }
        Due.is("judges", x.told(0), 3);
        Due.is("papers", x.told(1), 2);
        Due.is("signs", x.told(2), 7);
        Due.is("clauses", x.told(3), 5);
        Due.is("marks", x.told(4), 4);
        Due.is("told(5)", x.told(5), OUTSIDE);
        Due.is("told(-1)", x.told(-1), OUTSIDE);
        Due.is("told(the least)", x.told(Integer.MIN_VALUE), OUTSIDE);
    }
}
