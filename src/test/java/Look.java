import java.util.ArrayList;
import java.util.List;
import java.util.function.Consumer;

/**
 * Looks at an object's whole state, in views of fewer than 250 calls each. A view may change the
 * object: it is the last that is asked of it.
 */
final class Look {
    static final int VIEWS = 8;

    private Look() {
    }

    /** Some calls, all together few, leave nothing behind in a state. */
    static void unchanged(String what, State state, Consumer<PaperMarks> calls) {
        for (int view = 0; view < VIEWS; view++) {
            PaperMarks x = state.made().get();
            calls.accept(x);
            Due.holds(what + " change nothing in state " + state.name() + ", view " + view,
                at(x, view).equals(at(state.made().get(), view)));
        }
    }

    static List<Long> at(PaperMarks x, int view) {
        List<Long> seen = new ArrayList<>();
        switch (view) {
            case 0: counts(x, seen); break;
            case 1: tables(x, seen); break;
            case 2: ruleInForce(x, seen); break;
            case 3: signs(x, seen); break;
            case 4: kinds(x, seen, "g>9", "g>29"); break;
            case 5: kinds(x, seen, "g>19", "g>39", "g>49"); break;
            case 6: matches(x, seen); break;
            default: fractions(x, seen); break;
        }
        return seen;
    }

    private static void counts(PaperMarks x, List<Long> seen) {
        for (int what = 0; what <= 4; what++) {
            seen.add((long) x.told(what));
        }
        seen.add((long) x.fault());
        seen.add((long) x.parts());
        for (int i = 0; i < 6; i++) {
            seen.add((long) x.joined(i));
            seen.add((long) x.yes(i));
            seen.add((long) x.seen(i, 0));
            seen.add((long) x.seen(i, 1));
        }
        for (int i = -1; i < 3; i++) {
            seen.add((long) x.swap(i));
            seen.add((long) x.ring(i));
            seen.add((long) x.held(i));
        }
    }

    private static void tables(PaperMarks x, List<Long> seen) {
        for (int judge = 0; judge < 6; judge++) {
            for (int other = 0; other < 6; other++) {
                seen.add((long) x.mark(judge, other, -1));
                seen.add((long) x.bid(judge, other, 0));
                seen.add((long) x.tie(judge, other, 0));
            }
            seen.add((long) x.set(0, judge, 0));
        }
        for (int paper = 0; paper < 6; paper++) {
            seen.add((long) x.set(1, paper, 0));
            seen.add((long) x.set(2, paper, -1));
        }
    }

    /** What the rule makes of two judges' marks of the last paper: the joins differ there. */
    private static void ruleInForce(PaperMarks x, List<Long> seen) {
        int paper = x.told(1) - 1;
        for (int judge = 2; judge < 6; judge++) {
            x.mark(judge, paper, -1);
        }
        seen.add((long) x.told(3));
        for (int one = 0; one <= 5; one++) {
            x.mark(0, paper, one);
            for (int two = one; two <= 5; two++) {
                x.mark(1, paper, two);
                seen.add((long) x.yes(paper));
            }
        }
    }

    private static void signs(PaperMarks x, List<Long> seen) {
        seen.add((long) x.told(2));
        seen.add((long) x.fault());
        seen.add((long) x.rule());
        ruleInForce(x, seen);
    }

    /** Leans, slips, worths, writers, ties: each judge's odds of each paper by some bounds. */
    private static void kinds(PaperMarks x, List<Long> seen, String... rules) {
        int judges = x.told(0);
        int papers = x.told(1);
        for (String rule : rules) {
            x.wipe();
            Due.say(x, rule);
            x.rule();
            for (int judge = 0; judge < judges; judge++) {
                for (int paper = 0; paper < papers; paper++) {
                    seen.add(x.taken(paper, 1 << judge, 0));
                    seen.add(x.taken(paper, 1 << judge, 1));
                }
            }
        }
    }

    private static void matches(PaperMarks x, List<Long> seen) {
        for (int k = 1; k <= 3; k++) {
            for (int l = 1; l <= 4; l++) {
                for (int paper = -1; paper < 6; paper++) {
                    seen.add((long) x.match(k, l, paper));
                }
            }
        }
    }

    private static void fractions(PaperMarks x, List<Long> seen) {
        int all = (1 << x.told(0)) - 1;
        for (int part = 0; part <= 1; part++) {
            for (int i = 0; i < 6; i++) {
                seen.add(x.harsh(i, part));
                seen.add(x.taken(i, all, part));
                seen.add(x.right(3, all, part));
                for (int worth = 0; worth <= 5; worth++) {
                    seen.add(x.worth(i, worth, part));
                }
            }
        }
    }
}
