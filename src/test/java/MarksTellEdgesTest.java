/** The boundary cases of promises 17 to 23: worth, joined, parts, harsh, swap, ring, seen. */
public final class MarksTellEdgesTest {
    private static final int NONE = PaperMarks.NONE;
    private static final int LEAST = Integer.MIN_VALUE, GREATEST = Integer.MAX_VALUE;

    public static void main(String[] args) {
        worthRefusals();
        worthWithoutMarks();
        worthIfNoneCanBe();
        worthAtTheEnds();
        worthOfSixMarks();
        worthWithTies();
        joinedRefusals();
        joinedWithNobodyAndAll();
        joinedByTheLongestWay();
        partsFromNoneToSix();
        harshRefusals();
        harshWithoutSuchMarks();
        harshBounds();
        harshThatCancels();
        swapOfNothing();
        swapsFromNoneToAll();
        swapIsOf4OrMore();
        swapIsOfTheOthersPapers();
        ringOfNothing();
        ringsFromNoneToAll();
        ringIsOf4OrMore();
        ringBeginsWithTheLeast();
        seenRefusals();
        seenByNobodyAndAll();
        seenThroughByTheWriterAlone();
        everyKeyCounts();
        askingChangesNothing();
        Due.end();
    }

    private static PaperMarks judges(int count, int lean, int slip) {
        PaperMarks x = new PaperMarks();
        for (int i = 0; i < count; i++) {
            x.judge(lean, slip);
        }
        return x;
    }

    private static void papers(PaperMarks x, int... writers) {
        for (int writer : writers) {
            x.paper(0, writer);
        }
    }

    // ---- promise 17

    private static void worthRefusals() {
        for (State state : State.ALL) {
            Refusals.of(state, "worth", Refusals.oneOf(state.papers()), Refusals.within(0, 5), Refusals.within(0, 1));
        }
    }

    /** Upper numbers by worths 0 to 5, all by one lower number ahead of lowest terms. */
    private static void worths(String what, PaperMarks x, int paper, long lower, long... uppers) {
        for (int worth = 0; worth <= 5; worth++) {
            long shared = uppers[worth] == 0 ? lower : shared(uppers[worth], lower);
            Due.fraction(what + ", worth " + worth, x.worth(paper, worth, 0), x.worth(paper, worth, 1),
                uppers[worth] / shared, lower / shared);
        }
    }

    private static long shared(long one, long two) {
        return two == 0 ? one : shared(two, one % two);
    }

    private static void worthWithoutMarks() {
        PaperMarks x = new PaperMarks();
        x.paper(5, NONE);
        worths("no judges", x, 0, 6, 1, 1, 1, 1, 1, 1);
        x.judge(2, 2);
        worths("no marks", x, 0, 6, 1, 1, 1, 1, 1, 1);
        x.mark(0, 0, 5);
        x.mark(0, 0, -1);
        worths("the mark went", x, 0, 6, 1, 1, 1, 1, 1, 1);
        x.paper(0, NONE);
        x.mark(0, 1, 3);
        worths("another paper's marks", x, 0, 6, 1, 1, 1, 1, 1, 1);
    }

    private static void worthIfNoneCanBe() {
        PaperMarks x = judges(2, 0, 0);
        papers(x, NONE);
        x.mark(0, 0, 2);
        x.mark(1, 0, 3);
        worths("two that can not be together", x, 0, 1, 0, 0, 0, 0, 0, 0);
        PaperMarks high = judges(1, 2, 0);
        papers(high, NONE);
        high.mark(0, 0, 1);
        worths("lean 2 never gives 1", high, 0, 1, 0, 0, 0, 0, 0, 0);
        high.mark(0, 0, 2);
        worths("lean 2 gives 2 to worth 0", high, 0, 1, 1, 0, 0, 0, 0, 0);
    }

    private static void worthAtTheEnds() {
        PaperMarks low = judges(1, -2, 0);
        papers(low, NONE);
        low.mark(0, 0, 0);
        worths("lean -2 gives 0 to worths 0 to 2", low, 0, 3, 1, 1, 1, 0, 0, 0);
        low.mark(0, 0, 3);
        worths("lean -2 gives 3 to worth 5", low, 0, 1, 0, 0, 0, 0, 0, 1);
        low.mark(0, 0, 4);
        worths("lean -2 never gives 4", low, 0, 1, 0, 0, 0, 0, 0, 0);
        PaperMarks slip = judges(1, 0, 1);
        papers(slip, NONE);
        slip.mark(0, 0, 0);
        worths("slip 1, mark 0", slip, 0, 4, 3, 1, 0, 0, 0, 0);
        slip.mark(0, 0, 5);
        worths("slip 1, mark 5", slip, 0, 4, 0, 0, 0, 0, 1, 3);
        PaperMarks two = judges(1, 0, 2);
        papers(two, NONE);
        two.mark(0, 0, 0);
        worths("slip 2, mark 0", two, 0, 2, 1, 1, 0, 0, 0, 0);
        two.mark(0, 0, 1);
        worths("slip 2, mark 1", two, 0, 2, 1, 0, 1, 0, 0, 0);
    }

    private static void worthOfSixMarks() {
        PaperMarks x = judges(6, 0, 1);
        papers(x, NONE);
        for (int judge = 0; judge < 6; judge++) {
            x.mark(judge, 0, 3);
        }
        worths("six times 3", x, 0, 66, 0, 0, 1, 64, 1, 0);
        for (int judge = 0; judge < 6; judge++) {
            x.mark(judge, 0, 5);
        }
        worths("six times 5", x, 0, 730, 0, 0, 0, 0, 1, 729);
    }

    private static void worthWithTies() {
        PaperMarks x = judges(2, 0, 0);
        papers(x, 1);
        x.mark(0, 0, 0);
        worths("no tie", x, 0, 1, 1, 0, 0, 0, 0, 0);
        x.tie(0, 1, -1);
        worths("a foe gives 0 to worths 0 and 1", x, 0, 2, 1, 1, 0, 0, 0, 0);
        x.tie(0, 1, 1);
        worths("a friend never gives 0", x, 0, 1, 0, 0, 0, 0, 0, 0);
        x.mark(0, 0, 5);
        worths("a friend gives 5 to worths 4 and 5", x, 0, 2, 0, 0, 0, 0, 1, 1);
    }

    // ---- promises 18, 19

    private static void joinedRefusals() {
        for (State state : State.ALL) {
            Refusals.of(state, "joined", Refusals.oneOf(state.judges()));
        }
    }

    private static void joinedWithNobodyAndAll() {
        PaperMarks x = judges(6, 0, 0);
        Due.is("no papers", x.joined(0), 0);
        papers(x, NONE, NONE, NONE, NONE, NONE, NONE);
        for (int judge = 0; judge < 6; judge++) {
            Due.is("marked none", x.joined(judge), 0);
        }
        for (int judge = 0; judge < 6; judge++) {
            x.mark(judge, 5, 0);
            Due.is("0 is a mark, the last paper too", x.joined(judge), (2 << judge) - 1);
        }
        Due.is("all six from the first", x.joined(0), 63);
        x.mark(3, 5, -1);
        Due.is("without one", x.joined(0), 63 - 8);
        Due.is("that one", x.joined(3), 0);
        x.mark(3, 0, 5);
        Due.is("itself too", x.joined(3), 8);
    }

    /** The longest way from one to another: five papers, in each order of going through them. */
    private static void joinedByTheLongestWay() {
        for (int turn = 0; turn < 2; turn++) {
            PaperMarks x = judges(6, 0, 0);
            papers(x, NONE, NONE, NONE, NONE, NONE, NONE);
            for (int i = 0; i < 5; i++) {
                int paper = turn == 0 ? i : 5 - i;
                x.mark(i, paper, 0);
                x.mark(i + 1, paper, 5);
            }
            for (int judge = 0; judge < 6; judge++) {
                Due.is("all from " + judge, x.joined(judge), 63);
            }
            Due.is("one part", x.parts(), 1);
            x.mark(2, turn == 0 ? 2 : 3, -1);
            for (int judge = 0; judge < 6; judge++) {
                Due.is("cut in two, from " + judge, x.joined(judge), judge < 3 ? 7 : 56);
            }
            Due.is("two parts", x.parts(), 2);
        }
    }

    private static void partsFromNoneToSix() {
        PaperMarks x = judges(6, 0, 0);
        Due.is("no papers", x.parts(), 0);
        papers(x, NONE, NONE, NONE, NONE, NONE, NONE);
        Due.is("no marks", x.parts(), 0);
        for (int i = 0; i < 6; i++) {
            x.mark(i, 5 - i, 0);
            Due.is("each by itself", x.parts(), i + 1);
        }
        for (int i = 0; i < 5; i++) {
            x.mark(i, 4 - i, 5);
            Due.is("one fewer", x.parts(), 5 - i);
        }
        for (int judge = 0; judge < 6; judge++) {
            for (int paper = 0; paper < 6; paper++) {
                x.mark(judge, paper, 3);
            }
        }
        Due.is("all marks came", x.parts(), 1);
        Due.is("all are joined", x.joined(5), 63);
    }

    // ---- promise 20

    private static void harshRefusals() {
        for (State state : State.ALL) {
            Refusals.of(state, "harsh", Refusals.oneOf(state.judges()), Refusals.within(0, 1));
        }
    }

    private static void harsh(String what, PaperMarks x, int judge, long upper, long lower) {
        Due.fraction(what, x.harsh(judge, 0), x.harsh(judge, 1), upper, lower);
    }

    private static void harshWithoutSuchMarks() {
        PaperMarks x = judges(2, 0, 0);
        harsh("no papers", x, 0, 0, 1);
        papers(x, NONE, NONE);
        harsh("no marks", x, 0, 0, 1);
        x.mark(1, 0, 5);
        harsh("another's mark alone", x, 0, 0, 1);
        x.mark(0, 1, 5);
        harsh("no paper with others", x, 0, 0, 1);
        harsh("nor the other one", x, 1, 0, 1);
        x.mark(0, 0, 4);
        harsh("one paper with others", x, 0, -1, 1);
        x.mark(1, 0, -1);
        harsh("none again", x, 0, 0, 1);
    }

    private static void harshBounds() {
        PaperMarks x = judges(6, 0, 0);
        papers(x, NONE, NONE, NONE, NONE, NONE, NONE);
        for (int paper = 0; paper < 6; paper++) {
            for (int judge = 0; judge < 6; judge++) {
                x.mark(judge, paper, judge == 5 ? 0 : 5);
            }
        }
        harsh("the harshest", x, 5, -5, 1);
        harsh("the others", x, 0, 1, 1);
        for (int paper = 0; paper < 6; paper++) {
            for (int judge = 0; judge < 6; judge++) {
                x.mark(judge, paper, judge == 5 ? 5 : 0);
            }
        }
        harsh("the mildest", x, 5, 5, 1);
        harsh("the others", x, 4, -1, 1);
        // Others of two, three, four and five marks: the lower number is the greatest that can be.
        PaperMarks y = judges(6, 0, 0);
        papers(y, NONE, NONE, NONE, NONE, NONE, NONE);
        int[] counts = {1, 2, 3, 4, 5};
        for (int paper = 0; paper < 5; paper++) {
            y.mark(0, paper, 0);
            for (int judge = 1; judge <= counts[paper]; judge++) {
                y.mark(judge, paper, judge == 1 ? 1 : 0);
            }
        }
        // Less 1, a half, a third, a quarter, a fifth: 137 by 60, of five papers.
        harsh("all lower numbers", y, 0, -137, 300);
        y.mark(0, 5, 0);
        y.mark(1, 5, 0);
        harsh("a sixth paper", y, 0, -137, 360);
    }

    private static void harshThatCancels() {
        PaperMarks x = judges(2, 0, 0);
        papers(x, NONE, NONE);
        x.mark(0, 0, 5);
        x.mark(1, 0, 0);
        x.mark(0, 1, 0);
        x.mark(1, 1, 5);
        harsh("5 more and 5 less", x, 0, 0, 1);
        x.mark(0, 1, 5);
        harsh("alike on one of two", x, 0, 5, 2);
        harsh("the other one of them", x, 1, -5, 2);
    }

    // ---- promise 21

    private static void nothingOf(String what, PaperMarks x) {
        Due.is(what + ": how many swaps", x.swap(-1), 0);
        Due.is(what + ": how many rings", x.ring(-1), 0);
        for (int i : new int[] {-2, 0, 1, NONE, LEAST, GREATEST}) {
            Due.is(what + ": swap " + i, x.swap(i), NONE);
            Due.is(what + ": ring " + i, x.ring(i), NONE);
        }
    }

    private static void swapOfNothing() {
        PaperMarks x = new PaperMarks();
        nothingOf("a new object", x);
        x.judge(0, 0);
        x.judge(0, 0);
        nothingOf("no papers", x);
        papers(x, 0, 1);
        nothingOf("no marks", x);
        x.mark(0, 1, 5);
        nothingOf("one way", x);
    }

    /** Six judges with a paper of each. */
    private static PaperMarks sixWriters() {
        PaperMarks x = judges(6, 0, 0);
        papers(x, 0, 1, 2, 3, 4, 5);
        return x;
    }

    private static void swapsFromNoneToAll() {
        PaperMarks x = sixWriters();
        int count = 0;
        for (int a = 0; a < 6; a++) {
            for (int b = a + 1; b < 6; b++) {
                x.mark(b, a, 4);
                Due.is("one way only", x.swap(-1), count);
                x.mark(a, b, 5);
                Due.is("the last by now", x.swap(count), 10 * a + b);
                count++;
                Due.is("how many", x.swap(-1), count);
                Due.is("no further one", x.swap(count), NONE);
            }
        }
        int at = 0;
        for (int a = 0; a < 6; a++) {
            for (int b = a + 1; b < 6; b++) {
                Due.is("in their order", x.swap(at), 10 * a + b);
                at++;
            }
        }
        Due.is("the 16th", x.swap(15), NONE);
        Due.is("-2", x.swap(-2), NONE);
        Due.is("least", x.swap(LEAST), NONE);
        Due.is("greatest", x.swap(GREATEST), NONE);
    }

    private static void swapIsOf4OrMore() {
        for (int one = 0; one <= 5; one++) {
            for (int two = 0; two <= 5; two++) {
                PaperMarks x = sixWriters();
                x.mark(2, 5, one);
                x.mark(5, 2, two);
                Due.is("swap by " + one + ", " + two, x.swap(-1), one >= 4 && two >= 4 ? 1 : 0);
                Due.is("which", x.swap(0), one >= 4 && two >= 4 ? 25 : NONE);
            }
        }
    }

    private static void swapIsOfTheOthersPapers() {
        PaperMarks x = judges(3, 0, 0);
        papers(x, 0, 1, NONE, 1, 1);
        x.mark(1, 0, 4);
        x.mark(0, 2, 5);
        Due.is("a paper of nobody's", x.swap(-1), 0);
        x.mark(0, 1, 3);
        x.mark(0, 3, 0);
        Due.is("low marks of two of theirs", x.swap(-1), 0);
        x.mark(0, 4, 4);
        Due.is("one high mark of the three is enough", x.swap(-1), 1);
        x.mark(0, 1, 5);
        x.mark(0, 3, 5);
        Due.is("more of them are one swap", x.swap(-1), 1);
        Due.is("told once", x.swap(1), NONE);
        x.mark(0, 1, -1);
        x.mark(0, 3, -1);
        x.mark(0, 4, -1);
        Due.is("the marks went", x.swap(-1), 0);
    }

    // ---- promise 22

    private static void ringOfNothing() {
        PaperMarks two = judges(2, 0, 0);
        papers(two, 0, 1);
        two.mark(0, 1, 5);
        two.mark(1, 0, 5);
        Due.is("two are no ring", two.ring(-1), 0);
        Due.is("no first one", two.ring(0), NONE);
        PaperMarks chain = sixWriters();
        for (int judge = 0; judge < 5; judge++) {
            chain.mark(judge, judge + 1, 5);
        }
        Due.is("a chain is no ring", chain.ring(-1), 0);
        chain.mark(5, 0, 5);
        Due.is("six round are no ring of three", chain.ring(-1), 0);
        chain.mark(2, 0, 4);
        Due.is("0, 1, 2", chain.ring(0), 12);
    }

    private static void ringsFromNoneToAll() {
        PaperMarks x = sixWriters();
        for (int judge = 0; judge < 6; judge++) {
            for (int paper = 0; paper < 6; paper++) {
                x.mark(judge, paper, 4);
            }
        }
        Due.is("all", x.ring(-1), 40);
        int at = 0;
        for (int three = 0; three < 600; three++) {
            int a = three / 100;
            int b = three / 10 % 10;
            int c = three % 10;
            if (a < b && a < c && b < 6 && c < 6 && b != c) {
                Due.is("in their order", x.ring(at), three);
                at++;
            }
        }
        Due.is("the last", x.ring(39), 354);
        Due.is("the 41st", x.ring(40), NONE);
        Due.is("-2", x.ring(-2), NONE);
        Due.is("least", x.ring(LEAST), NONE);
        Due.is("greatest", x.ring(GREATEST), NONE);
    }

    private static void ringIsOf4OrMore() {
        for (int low = 0; low < 3; low++) {
            PaperMarks x = sixWriters();
            for (int i = 0; i < 3; i++) {
                x.mark(i + 3, (i + 1) % 3 + 3, i == low ? 3 : 4);
            }
            Due.is("a 3 breaks it", x.ring(-1), 0);
            x.mark(low + 3, (low + 1) % 3 + 3, 4);
            Due.is("4 is enough", x.ring(-1), 1);
            Due.is("which", x.ring(0), 345);
            x.mark(low + 3, (low + 1) % 3 + 3, -1);
            Due.is("no mark breaks it", x.ring(-1), 0);
        }
    }

    private static void ringBeginsWithTheLeast() {
        int[][] turns = {{1, 2, 5}, {2, 5, 1}, {5, 1, 2}};
        for (int[] turn : turns) {
            PaperMarks x = sixWriters();
            for (int i = 0; i < 3; i++) {
                x.mark(turn[i], turn[(i + 1) % 3], 5);
            }
            Due.is("1 to 2 to 5", x.ring(0), 125);
            Due.is("once", x.ring(-1), 1);
            PaperMarks y = sixWriters();
            for (int i = 0; i < 3; i++) {
                y.mark(turn[(i + 1) % 3], turn[i], 5);
            }
            Due.is("1 to 5 to 2", y.ring(0), 152);
            Due.is("once", y.ring(-1), 1);
        }
    }

    // ---- promise 23

    private static void seenRefusals() {
        for (State state : State.ALL) {
            Refusals.of(state, "seen", Refusals.oneOf(state.papers()), Refusals.within(0, 1));
        }
    }

    private static void seen(String what, PaperMarks x, int paper, int bits, int through) {
        Due.is(what + ": who", x.seen(paper, 0), bits);
        Due.is(what + ": whether", x.seen(paper, 1), through);
    }

    private static void seenByNobodyAndAll() {
        PaperMarks x = new PaperMarks();
        x.paper(0, NONE);
        seen("no judges", x, 0, 0, 0);
        x.set(1, 0, 63);
        seen("no judges, all keys", x, 0, 0, 0);
        PaperMarks y = sixWriters();
        seen("no keys at first: all", y, 5, 63, 0);
        y.set(1, 5, 63);
        seen("all keys: nobody", y, 5, 0, 0);
        for (int judge = 0; judge < 6; judge++) {
            y.set(0, judge, 63);
            seen("all keys: those who have them", y, 5, (2 << judge) - 1, 0);
        }
    }

    private static void seenThroughByTheWriterAlone() {
        PaperMarks x = new PaperMarks();
        x.judge(0, 0);
        x.paper(0, 0);
        seen("a single judge, its writer", x, 0, 1, 1);
        PaperMarks y = sixWriters();
        y.set(1, 5, 32);
        seen("nobody", y, 5, 0, 0);
        y.set(0, 5, 32);
        seen("the writer alone", y, 5, 32, 1);
        y.set(0, 0, 32);
        seen("another too", y, 5, 33, 0);
        y.set(0, 5, 31);
        seen("another alone", y, 5, 1, 0);
        PaperMarks z = judges(2, 0, 0);
        papers(z, NONE);
        z.set(1, 0, 1);
        z.set(0, 1, 1);
        seen("no writer, one judge", z, 0, 2, 0);
        z.set(0, 1, 0);
        seen("no writer, nobody", z, 0, 0, 0);
    }

    private static void everyKeyCounts() {
        PaperMarks x = judges(1, 0, 0);
        papers(x, NONE);
        for (int key = 0; key < 6; key++) {
            x.set(1, 0, 1 << key);
            x.set(0, 0, 63 - (1 << key));
            Due.is("all but key " + key, x.seen(0, 0), 0);
            x.set(0, 0, 1 << key);
            Due.is("just key " + key, x.seen(0, 0), 1);
            x.set(1, 0, 63);
            Due.is("of all keys just " + key, x.seen(0, 0), 0);
        }
    }

    private static void askingChangesNothing() {
        for (State state : State.ALL) {
            Look.unchanged("what marks tell", state, x -> {
                x.worth(0, 5, 0);
                x.joined(0);
                x.parts();
                x.harsh(0, 1);
                x.swap(0);
                x.swap(LEAST);
                x.ring(0);
                x.ring(GREATEST);
                x.seen(0, 1);
            });
        }
    }
}
