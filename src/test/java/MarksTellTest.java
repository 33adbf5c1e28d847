/** Promises 17 to 23: worth, joined, parts, harsh, swap, ring, seen. */
public final class MarksTellTest {
    private static final int UNKNOWN = PaperMarks.UNKNOWN, OUTSIDE = PaperMarks.OUTSIDE, NONE = PaperMarks.NONE;

    public static void main(String[] args) {
        worths();
        worthsWithTiesAndBounds();
        joinedAndParts();
        longChainsAreJoined();
        harshness();
        swaps();
        rings();
        allRings();
        seen();
        Due.end();
    }

    private static PaperMarks judgesAndPapers(int judges, int papers) {
        PaperMarks x = new PaperMarks();
        for (int i = 0; i < judges; i++) {
            x.judge(0, 0);
        }
        for (int i = 0; i < papers; i++) {
            x.paper(0, NONE);
        }
        return x;
    }

    private static void worth(PaperMarks x, int paper, int worth, long upper, long lower) {
        Due.fraction("worth(" + paper + ", " + worth + ")", x.worth(paper, worth, 0), x.worth(paper, worth, 1),
                upper, lower);
    }

    private static void worths() {
        PaperMarks x = new PaperMarks();
        Due.lost("no paper", x.worth(0, 0, 0), x.worth(-1, 0, 1), UNKNOWN);
        x.judge(0, 1);
        x.judge(1, 0);
        x.judge(0, 2);
        x.paper(5, NONE);
        Due.is("UNKNOWN before OUTSIDE", x.worth(1, 6, 2), PaperMarks.LOST + UNKNOWN);
        for (int each = 0; each <= 5; each++) {
            worth(x, 0, each, 1, 6);
        }
        x.mark(0, 0, 3);
        worth(x, 0, 1, 0, 1);
        worth(x, 0, 2, 1, 4);
        worth(x, 0, 3, 1, 2);
        worth(x, 0, 4, 1, 4);
        worth(x, 0, 5, 0, 1);
        x.mark(2, 0, 3);
        worth(x, 0, 2, 1, 2);
        worth(x, 0, 3, 0, 1);
        worth(x, 0, 4, 1, 2);
        x.mark(1, 0, 5);
        worth(x, 0, 2, 0, 1);
        worth(x, 0, 4, 1, 1);
        x.mark(1, 0, 0);
        for (int each = 0; each <= 5; each++) {
            worth(x, 0, each, 0, 1);
        }
        Due.lost("worth", x.worth(0, -1, 0), x.worth(0, 6, 1), OUTSIDE);
        Due.lost("part", x.worth(0, 0, -1), x.worth(0, 0, 2), OUTSIDE);
    }

    private static void worthsWithTiesAndBounds() {
        PaperMarks x = new PaperMarks();
        x.judge(0, 1);
        x.judge(0, 0);
        x.judge(2, 0);
        x.paper(0, 1);
        x.paper(0, NONE);
        x.mark(0, 0, 5);
        // By worth 4 one way, by 5 two and the one that is held: 1 and 3 quarters.
        worth(x, 0, 4, 1, 4);
        worth(x, 0, 5, 3, 4);
        x.tie(0, 1, 1);
        worth(x, 0, 3, 1, 8);
        worth(x, 0, 4, 3, 8);
        worth(x, 0, 5, 1, 2);
        x.tie(0, 1, -1);
        worth(x, 0, 5, 1, 1);
        x.mark(2, 1, 5);
        worth(x, 1, 3, 1, 3);
        worth(x, 1, 2, 0, 1);
        x.mark(2, 1, 1);
        worth(x, 1, 0, 0, 1);
        x.mark(2, 1, -1);
        worth(x, 1, 0, 1, 6);
    }

    private static void joinedAndParts() {
        PaperMarks x = judgesAndPapers(6, 6);
        Due.is("no judge", x.joined(6), UNKNOWN);
        Due.is("judge -1", x.joined(-1), UNKNOWN);
        Due.is("marked none", x.joined(0), 0);
        Due.is("no parts", x.parts(), 0);
        x.mark(0, 0, 0);
        Due.is("itself alone", x.joined(0), 1);
        Due.is("one part", x.parts(), 1);
        x.mark(1, 1, 5);
        x.mark(5, 1, 5);
        Due.is("1 with 5", x.joined(1), 34);
        Due.is("5 with 1", x.joined(5), 34);
        Due.is("0 still alone", x.joined(0), 1);
        Due.is("two parts", x.parts(), 2);
        x.mark(3, 3, 1);
        Due.is("three parts", x.parts(), 3);
        x.mark(3, 0, 1);
        x.mark(5, 3, 2);
        Due.is("all by way of 3", x.joined(0), 43);
        Due.is("all by way of 3, from 1", x.joined(1), 43);
        Due.is("one part again", x.parts(), 1);
        Due.is("not 2", x.joined(2), 0);
        x.mark(3, 0, -1);
        Due.is("apart again", x.parts(), 2);
    }

    private static void longChainsAreJoined() {
        PaperMarks x = judgesAndPapers(6, 6);
        int[] order = {3, 0, 5, 1, 4, 2};
        int[] papers = {5, 4, 3, 2, 1};
        for (int i = 0; i < 5; i++) {
            x.mark(order[i], papers[i], 1);
            x.mark(order[i + 1], papers[i], 2);
        }
        for (int judge = 0; judge < 6; judge++) {
            Due.is("all from " + judge, x.joined(judge), 63);
        }
        Due.is("one part", x.parts(), 1);
        x.mark(5, 3, -1);
        Due.is("cut: from 3", x.joined(3), 41);
        Due.is("cut: from 2", x.joined(2), 22);
        Due.is("cut: parts", x.parts(), 2);
    }

    private static void harsh(PaperMarks x, int judge, long upper, long lower) {
        Due.fraction("harsh(" + judge + ")", x.harsh(judge, 0), x.harsh(judge, 1), upper, lower);
    }

    private static void harshness() {
        PaperMarks x = judgesAndPapers(6, 6);
        Due.lost("no judge", x.harsh(6, 0), x.harsh(-1, 2), UNKNOWN);
        Due.lost("part", x.harsh(0, 2), x.harsh(0, -1), OUTSIDE);
        harsh(x, 0, 0, 1);
        x.mark(0, 0, 5);
        harsh(x, 0, 0, 1);
        x.mark(1, 0, 2);
        harsh(x, 0, 3, 1);
        harsh(x, 1, -3, 1);
        x.mark(2, 0, 1);
        harsh(x, 0, 7, 2);
        harsh(x, 1, -1, 1);
        harsh(x, 2, -5, 2);
        x.mark(3, 0, 2);
        harsh(x, 0, 10, 3);
        x.mark(4, 0, 2);
        harsh(x, 0, 13, 4);
        x.mark(5, 0, 1);
        harsh(x, 0, 17, 5);
        // Another paper, of its own alone, does not count; one with others does.
        x.mark(0, 1, 0);
        harsh(x, 0, 17, 5);
        x.mark(0, 2, 0);
        x.mark(1, 2, 1);
        x.mark(2, 2, 2);
        x.mark(3, 2, 2);
        harsh(x, 0, 13, 15);
        harsh(x, 5, -7, 5);
        x.mark(4, 0, -1);
        harsh(x, 4, 0, 1);
        x.mark(4, 5, 3);
        x.mark(5, 5, 3);
        harsh(x, 4, 0, 1);
    }

    private static void swaps() {
        PaperMarks x = new PaperMarks();
        for (int i = 0; i < 4; i++) {
            x.judge(0, 0);
        }
        for (int i = 0; i < 4; i++) {
            x.paper(0, 3 - i);
        }
        x.paper(0, 0);
        x.paper(0, NONE);
        x.mark(0, 2, 4);
        Due.is("one way only", x.swap(-1), 0);
        x.mark(1, 3, 3);
        x.mark(1, 5, 5);
        Due.is("3 is not enough", x.swap(-1), 0);
        Due.is("no first one", x.swap(0), NONE);
        x.mark(1, 4, 4);
        Due.is("another paper of theirs", x.swap(-1), 1);
        Due.is("it is 0 with 1", x.swap(0), 1);
        x.mark(3, 1, 5);
        x.mark(2, 0, 5);
        x.mark(3, 3, 5);
        x.mark(0, 0, 5);
        Due.is("three", x.swap(-1), 3);
        Due.is("first", x.swap(0), 1);
        Due.is("second", x.swap(1), 3);
        Due.is("third", x.swap(2), 23);
        Due.is("no fourth", x.swap(3), NONE);
        Due.is("-2", x.swap(-2), NONE);
        Due.is("the least", x.swap(Integer.MIN_VALUE), NONE);
        Due.is("the greatest", x.swap(Integer.MAX_VALUE), NONE);
        x.mark(3, 3, -1);
        Due.is("two are left", x.swap(-1), 2);
        Due.is("the second now", x.swap(1), 23);
    }

    private static void rings() {
        PaperMarks x = new PaperMarks();
        for (int i = 0; i < 5; i++) {
            x.judge(0, 0);
        }
        for (int i = 0; i < 5; i++) {
            x.paper(0, i);
        }
        x.mark(3, 1, 4);
        x.mark(1, 4, 4);
        Due.is("not round", x.ring(-1), 0);
        x.mark(4, 3, 3);
        Due.is("3 is not enough", x.ring(-1), 0);
        Due.is("no first one", x.ring(0), NONE);
        x.mark(4, 3, 4);
        Due.is("round", x.ring(-1), 1);
        Due.is("the least first: 1 to 4 to 3", x.ring(0), 143);
        Due.is("told once", x.ring(1), NONE);
        x.mark(1, 3, 5);
        x.mark(3, 4, 5);
        x.mark(4, 1, 5);
        Due.is("the other way round too", x.ring(-1), 2);
        Due.is("by numbers, first", x.ring(0), 134);
        Due.is("by numbers, second", x.ring(1), 143);
        x.mark(0, 1, 5);
        x.mark(4, 0, 5);
        Due.is("with 0: 0 to 1 to 4", x.ring(0), 14);
        Due.is("three", x.ring(-1), 3);
        Due.is("last", x.ring(2), 143);
        Due.is("no fourth", x.ring(3), NONE);
        Due.is("-2", x.ring(-2), NONE);
        Due.is("the least", x.ring(Integer.MIN_VALUE), NONE);
        Due.is("a swap is no ring", x.swap(-1), 3);
    }

    private static void allRings() {
        PaperMarks x = new PaperMarks();
        for (int i = 0; i < 6; i++) {
            x.judge(0, 0);
        }
        for (int i = 0; i < 6; i++) {
            x.paper(0, i);
        }
        for (int judge = 0; judge < 6; judge++) {
            for (int paper = 0; paper < 6; paper++) {
                x.mark(judge, paper, 5);
            }
        }
        Due.is("all swaps", x.swap(-1), 15);
        Due.is("the last swap", x.swap(14), 45);
        Due.is("all rings", x.ring(-1), 40);
        Due.is("the first ring", x.ring(0), 12);
        Due.is("the last ring", x.ring(39), 354);
        int before = -1;
        for (int i = 0; i < 40; i++) {
            Due.holds("rings by numbers " + i, x.ring(i) > before);
            before = x.ring(i);
        }
    }

    private static void seen() {
        PaperMarks x = new PaperMarks();
        Due.is("no paper", x.seen(0, 0), UNKNOWN);
        x.judge(0, 0);
        x.paper(0, 0);
        x.paper(0, NONE);
        Due.is("no keys are had by all", x.seen(0, 0), 1);
        Due.is("the writer alone is there", x.seen(0, 1), 1);
        Due.is("no writer", x.seen(1, 1), 0);
        x.judge(0, 0);
        x.judge(0, 0);
        Due.is("all three", x.seen(0, 0), 7);
        Due.is("not the writer alone", x.seen(0, 1), 0);
        x.set(1, 0, 48);
        Due.is("nobody has them", x.seen(0, 0), 0);
        Due.is("nobody: not seen through", x.seen(0, 1), 0);
        x.set(0, 0, 16);
        Due.is("some keys are not all", x.seen(0, 0), 0);
        x.set(0, 0, 49);
        Due.is("all keys and more", x.seen(0, 0), 1);
        Due.is("seen through", x.seen(0, 1), 1);
        x.set(0, 2, 48);
        Due.is("two have them", x.seen(0, 0), 5);
        Due.is("two: not seen through", x.seen(0, 1), 0);
        x.set(0, 0, 0);
        Due.is("another alone", x.seen(0, 0), 4);
        Due.is("another alone: not seen through", x.seen(0, 1), 0);
        x.set(1, 1, 48);
        Due.is("without a writer", x.seen(1, 0), 4);
        Due.is("without a writer: not seen through", x.seen(1, 1), 0);
        Due.is("what 2", x.seen(0, 2), OUTSIDE);
        Due.is("what -1", x.seen(0, -1), OUTSIDE);
        Due.is("UNKNOWN before OUTSIDE", x.seen(2, 2), UNKNOWN);
        Due.is("paper -1", x.seen(-1, 0), UNKNOWN);
    }
}
