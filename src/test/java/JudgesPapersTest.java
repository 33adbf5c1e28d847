/** Promises 1 to 6: a new object, judge, paper, tie, mark, set. */
public final class JudgesPapersTest {
    private static final int UNKNOWN = PaperMarks.UNKNOWN, OUTSIDE = PaperMarks.OUTSIDE, STATE = PaperMarks.STATE;
    private static final int FULL = PaperMarks.FULL, NO = PaperMarks.NO, NONE = PaperMarks.NONE;

    public static void main(String[] args) {
        newObject();
        judges();
        papers();
        ties();
        marks();
        marksOfAFullTable();
        keys();
        laterYears();
        whichOfSet();
        Due.end();
    }

    private static void newObject() {
        PaperMarks x = new PaperMarks();
        for (int what = 0; what <= 4; what++) {
            Due.is("new: told(" + what + ")", x.told(what), 0);
        }
        Due.is("new: fault", x.fault(), 0);
        Due.is("new: rule", x.rule(), NO);
        Due.is("new: wipe", x.wipe(), 0);
        Due.is("new: parts", x.parts(), 0);
        Due.is("new: joined", x.joined(0), UNKNOWN);
        Due.is("new: swap", x.swap(-1), 0);
        Due.is("new: ring", x.ring(-1), 0);
        Due.is("new: match", x.match(1, 1, -1), 0);
        Due.is("new: held", x.held(0), 0);
        Due.is("new: paper 0", x.yes(0), UNKNOWN);
        Due.is("new: right", x.right(1, 0, 0), PaperMarks.LOST + STATE);
        PaperMarks other = new PaperMarks();
        x.judge(0, 0);
        Due.is("objects share nothing", other.told(0), 0);
    }

    private static void judges() {
        PaperMarks x = new PaperMarks();
        Due.is("lean -3", x.judge(-3, 0), OUTSIDE);
        Due.is("lean 3", x.judge(3, 0), OUTSIDE);
        Due.is("slip -1", x.judge(0, -1), OUTSIDE);
        Due.is("slip 3", x.judge(0, 3), OUTSIDE);
        Due.is("refused judges are none", x.told(0), 0);
        int[][] kinds = {{-2, 0}, {2, 2}, {0, 1}, {-2, 2}, {2, 0}, {1, 1}};
        for (int i = 0; i < kinds.length; i++) {
            Due.is("judge " + i, x.judge(kinds[i][0], kinds[i][1]), i);
        }
        Due.is("a seventh judge", x.judge(0, 0), FULL);
        Due.is("OUTSIDE before FULL", x.judge(3, 0), OUTSIDE);
        Due.is("OUTSIDE before FULL, slip", x.judge(0, 3), OUTSIDE);
        Due.is("six judges", x.told(0), 6);
    }

    private static void papers() {
        PaperMarks x = new PaperMarks();
        Due.is("a writer who is not there yet", x.paper(0, 0), UNKNOWN);
        x.judge(0, 0);
        for (int writer : new int[] {-1, -2, -5, -7, 1, 6, Integer.MAX_VALUE, Integer.MIN_VALUE}) {
            Due.is("writer " + writer, x.paper(0, writer), UNKNOWN);
            Due.is("UNKNOWN before OUTSIDE, writer " + writer, x.paper(6, writer), UNKNOWN);
        }
        Due.is("worth -1", x.paper(-1, NONE), OUTSIDE);
        Due.is("worth 6", x.paper(6, 0), OUTSIDE);
        Due.is("refused papers are none", x.told(1), 0);
        for (int i = 0; i < 6; i++) {
            Due.is("paper " + i, x.paper(i, i % 2 == 0 ? 0 : NONE), i);
        }
        Due.is("a seventh paper", x.paper(0, NONE), FULL);
        Due.is("OUTSIDE before FULL", x.paper(6, NONE), OUTSIDE);
        Due.is("UNKNOWN before FULL", x.paper(0, 1), UNKNOWN);
        Due.is("six papers", x.told(1), 6);
    }

    private static void ties() {
        PaperMarks x = new PaperMarks();
        for (int i = 0; i < 3; i++) {
            x.judge(0, 0);
        }
        Due.is("no tie at first", x.tie(0, 1, 1), 10);
        Due.is("a friend", x.tie(0, 1, 1), 11);
        Due.is("both ways", x.tie(1, 0, -1), 11);
        Due.is("a foe, both ways", x.tie(0, 1, 0), 9);
        Due.is("none again", x.tie(1, 0, 1), 10);
        Due.is("another pair", x.tie(1, 2, -1), 10);
        Due.is("one and the same", x.tie(1, 1, 0), UNKNOWN);
        Due.is("one and the same, v outside", x.tie(1, 1, 5), UNKNOWN);
        Due.is("no judge a", x.tie(3, 0, 0), UNKNOWN);
        Due.is("no judge b", x.tie(0, -1, 0), UNKNOWN);
        Due.is("UNKNOWN before OUTSIDE", x.tie(0, 3, 2), UNKNOWN);
        Due.is("v 2", x.tie(0, 1, 2), OUTSIDE);
        Due.is("v -2", x.tie(0, 1, -2), OUTSIDE);
        Due.is("refused ties change nothing", x.tie(0, 1, 1), 11);
        Due.is("the other pair stands", x.tie(2, 1, -1), 9);
    }

    private static void marks() {
        PaperMarks x = new PaperMarks();
        x.judge(0, 0);
        x.judge(0, 0);
        x.paper(3, 0);
        x.paper(3, NONE);
        Due.is("none at first", x.mark(1, 0, 0), NONE);
        Due.is("it was 0", x.mark(1, 0, 5), 0);
        Due.is("it was 5", x.mark(1, 0, -1), 5);
        Due.is("none again", x.mark(1, 0, -1), NONE);
        Due.is("nothing came", x.told(4), 0);
        Due.is("again", x.mark(1, 0, 4), NONE);
        Due.is("one of two judges", x.mark(0, 1, 2), NONE);
        Due.is("two came", x.told(4), 2);
        Due.is("v -2", x.mark(1, 0, -2), OUTSIDE);
        Due.is("v 6", x.mark(1, 0, 6), OUTSIDE);
        Due.is("v NONE", x.mark(1, 0, NONE), OUTSIDE);
        Due.is("no judge", x.mark(2, 0, 0), UNKNOWN);
        Due.is("no judge -1", x.mark(-1, 0, 0), UNKNOWN);
        Due.is("no paper", x.mark(0, 2, 0), UNKNOWN);
        Due.is("no paper -1", x.mark(0, -1, 0), UNKNOWN);
        Due.is("UNKNOWN before OUTSIDE", x.mark(0, 2, 9), UNKNOWN);
        Due.is("the writer", x.mark(0, 0, 3), NO);
        Due.is("the writer, none", x.mark(0, 0, -1), NO);
        Due.is("OUTSIDE before NO", x.mark(0, 0, 6), OUTSIDE);
        Due.is("refused marks change nothing", x.told(4), 2);
        Due.is("refused marks change nothing, 1", x.mark(1, 0, 4), 4);
        Due.is("refused marks change nothing, 2", x.mark(0, 1, 2), 2);
    }

    private static void marksOfAFullTable() {
        PaperMarks x = new PaperMarks();
        for (int i = 0; i < 6; i++) {
            x.judge(0, 0);
            x.paper(0, NONE);
        }
        for (int judge = 0; judge < 6; judge++) {
            for (int paper = 0; paper < 6; paper++) {
                Due.is("first mark", x.mark(judge, paper, (judge + 2 * paper) % 6), NONE);
            }
        }
        Due.is("all marks", x.told(4), 36);
        for (int judge = 0; judge < 6; judge++) {
            for (int paper = 0; paper < 6; paper++) {
                Due.is("mark " + judge + " " + paper, x.mark(judge, paper, -1), (judge + 2 * paper) % 6);
            }
        }
        Due.is("no marks", x.told(4), 0);
    }

    private static void keys() {
        PaperMarks x = new PaperMarks();
        x.judge(0, 0);
        x.judge(0, 0);
        x.paper(0, 0);
        Due.is("judge's keys at first", x.set(0, 0, 63), 0);
        Due.is("judge's keys", x.set(0, 0, 5), 63);
        Due.is("another judge's", x.set(0, 1, 0), 0);
        Due.is("paper's keys at first", x.set(1, 0, 9), 0);
        Due.is("paper's keys", x.set(1, 0, 63), 9);
        for (int which = 0; which <= 1; which++) {
            Due.is("keys -1", x.set(which, 0, -1), OUTSIDE);
            Due.is("keys 64", x.set(which, 0, 64), OUTSIDE);
            Due.is("UNKNOWN before OUTSIDE", x.set(which, 2, 64), UNKNOWN);
            Due.is("nobody -1", x.set(which, -1, 0), UNKNOWN);
        }
        Due.is("no such paper, though such a judge", x.set(1, 1, 0), UNKNOWN);
        Due.is("unchanged judge", x.set(0, 0, 5), 5);
        Due.is("unchanged paper", x.set(1, 0, 63), 63);
    }

    private static void laterYears() {
        PaperMarks x = new PaperMarks();
        x.judge(0, 0);
        x.paper(0, NONE);
        x.paper(0, NONE);
        Due.is("none at first", x.set(2, 0, 0), NONE);
        Due.is("it was 0", x.set(2, 0, 9), 0);
        Due.is("it was 9", x.set(2, 0, -1), 9);
        Due.is("none again", x.set(2, 0, -1), NONE);
        Due.is("a paper without such a judge", x.set(2, 1, 4), NONE);
        Due.is("10", x.set(2, 1, 10), OUTSIDE);
        Due.is("-2", x.set(2, 1, -2), OUTSIDE);
        Due.is("no paper", x.set(2, 2, 0), UNKNOWN);
        Due.is("UNKNOWN before OUTSIDE", x.set(2, 2, 10), UNKNOWN);
        Due.is("unchanged", x.set(2, 1, 4), 4);
    }

    private static void whichOfSet() {
        PaperMarks x = new PaperMarks();
        x.judge(0, 0);
        x.paper(0, NONE);
        Due.is("which 3", x.set(3, 0, 0), OUTSIDE);
        Due.is("which -1", x.set(-1, 0, 0), OUTSIDE);
        // Where which is none of the three, i is neither a judge nor a paper.
        Due.is("which 3, no such i", x.set(3, 9, 0), OUTSIDE);
    }
}
