import java.util.function.Supplier;

/**
 * States in which calls are tried: nothing yet, some of everything, some without a rule, and as much
 * as fits. Each is made anew by the same calls, fewer than 120, so that some 390 are left to a test.
 */
record State(String name, Supplier<PaperMarks> made, int judges, int papers, boolean ruled) {
    static final State NOTHING = new State("nothing", PaperMarks::new, 0, 0, false);
    static final State SOME = new State("some", State::some, 3, 2, true);
    static final State NO_RULE = new State("no rule", State::someWithoutRule, 3, 2, false);
    static final State FULL = new State("full", State::full, 6, 6, true);
    static final State[] ALL = {NOTHING, SOME, NO_RULE, FULL};

    /** The papers' writers in the full state. Judges 0 and 1 may mark the last paper of every state. */
    static final int[] FULL_WRITERS = {0, 1, PaperMarks.NONE, 0, 5, 3};

    /** 40 signs without a fault: the signs of the full state. */
    static final String FORTY = "g>49?3;m>20;l>9?1;a>25?2;g>30;l>15;a>1?1";

    private static PaperMarks someWithoutRule() {
        PaperMarks x = new PaperMarks();
        x.judge(1, 1);
        x.judge(-1, 0);
        x.judge(0, 2);
        x.paper(3, 0);
        x.paper(2, PaperMarks.NONE);
        x.tie(0, 1, 1);
        x.tie(2, 0, -1);
        x.mark(1, 0, 4);
        x.mark(2, 0, 1);
        x.mark(0, 1, 5);
        x.set(0, 0, 21);
        x.set(0, 2, 63);
        x.set(1, 0, 20);
        x.set(2, 0, 7);
        x.set(2, 1, 3);
        x.bid(1, 0, 2);
        x.bid(2, 1, 3);
        Due.say(x, "m>2");
        return x;
    }

    private static PaperMarks some() {
        PaperMarks x = someWithoutRule();
        x.wipe();
        Due.say(x, "a>25?1;g>30");
        x.rule();
        Due.say(x, "m>2");
        return x;
    }

    private static PaperMarks full() {
        PaperMarks x = new PaperMarks();
        for (int i = 0; i < 6; i++) {
            // The last judge and paper are unlike any that is tried as one too many.
            x.judge((i + 1) % 5 - 2, (i + 2) % 3);
        }
        for (int i = 0; i < 6; i++) {
            x.paper((3 * i + 1) % 6, FULL_WRITERS[i]);
        }
        x.tie(0, 1, -1);
        x.tie(1, 2, 1);
        x.tie(5, 0, 1);
        int[][] marks = {{0, 1, 4}, {1, 0, 5}, {1, 2, 4}, {2, 0, 4}, {4, 3, 2}, {3, 3, 0}, {5, 5, 3}, {0, 4, 1}};
        for (int[] mark : marks) {
            x.mark(mark[0], mark[1], mark[2]);
        }
        for (int i = 0; i < 6; i++) {
            x.set(0, i, 11 * i % 64);
            x.set(1, i, i);
            x.set(2, i, 7 * i % 10);
            x.bid(i, (i + 2) % 6, i % 3 + 1);
        }
        Due.say(x, "l>30;m>15?2");
        x.rule();
        Due.say(x, FORTY);
        return x;
    }
}
