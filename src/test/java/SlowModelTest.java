import java.lang.reflect.InvocationTargetException;
import java.lang.reflect.Method;
import java.util.Arrays;
import java.util.HashMap;
import java.util.Map;
import java.util.Random;

/**
 * Runs of chance calls, 512 or (for matches) fewer, on the class and on the slow model; all answers
 * must be alike. The chance is of fixed seeds, so that every run is the same each time. Some numbers are
 * wild, so that calls are refused in every state, and a refused call that changed something is found by
 * later calls.
 */
public final class SlowModelTest {
    private static final int RUNS = 120;
    private static final int MOST_CALLS = 512;
    /** Kinds of calls, each a case below. */
    private static final int KINDS = 34, TEXT = 11, TOLD = 33;
    /** A text has up to 69 signs (more than fit), and wipe, fault and rule go with it. */
    private static final int CALLS_OF_TEXT = 72;
    private static final int[] WILD = {-7, -6, -5, -3, -2, -1, 6, 7, 10, 31, 32, 63, 64, 127, 1 << 30,
        Integer.MAX_VALUE, Integer.MIN_VALUE};
    private static final Map<String, Method> CALLS = new HashMap<>();

    private final Random random;
    private final PaperMarks object = new PaperMarks();
    private final SlowMarks model = new SlowMarks();
    private final int run;
    private int calls = 0;

    private SlowModelTest(int run) {
        this.run = run;
        random = new Random(1000 + run);
    }

    public static void main(String[] args) throws IllegalAccessException, InvocationTargetException {
        for (Method method : PaperMarks.class.getDeclaredMethods()) {
            CALLS.putIfAbsent(method.getName(), method);
        }
        for (int run = 0; run < RUNS; run++) {
            new SlowModelTest(run).go();
            new SlowModelTest(RUNS + run).goThroughMatches();
        }
        Due.end();
    }

    private void go() throws IllegalAccessException, InvocationTargetException {
        int judges = 1 + random.nextInt(6);
        for (int i = 0; i < judges; i++) {
            call("judge", pick(-2, 2), random.nextInt(4) == 0 ? pick(0, 2) : 1);
        }
        int papers = 1 + random.nextInt(6);
        for (int i = 0; i < papers; i++) {
            call("paper", pick(0, 5), random.nextBoolean() ? PaperMarks.NONE : pick(0, judges - 1));
        }
        boolean calm = run % 2 == 0;
        while (calls < MOST_CALLS) {
            int kind = random.nextInt(KINDS);
            one(calm, kind == TEXT && calls > MOST_CALLS - CALLS_OF_TEXT ? TOLD : kind);
        }
        Due.is("run " + run + " has as many calls as an object is used for", calls, 512);
    }

    /** Matches of many judges and papers; by turns bids of which few sums, and many, are alike. */
    private void goThroughMatches() throws IllegalAccessException, InvocationTargetException {
        int judges = pick(3, 6);
        for (int i = 0; i < judges; i++) {
            call("judge", 0, 0);
        }
        int papers = pick(3, 6);
        for (int i = 0; i < papers; i++) {
            call("paper", 0, random.nextInt(3) == 0 ? PaperMarks.NONE : pick(0, judges - 1));
        }
        for (int round = 0; round < 6; round++) {
            for (int i = 0; i < 25; i++) {
                int bid = run % 2 == 0 ? pick(0, 3) : pick(0, 1);
                call("bid", pick(0, judges - 1), pick(0, papers - 1), bid);
            }
            call("tie", 0, pick(1, judges - 1), pick(-1, 1));
            int k = pick(1, 3);
            int l = Math.min(4, Math.max(1, (k * papers + judges - 1) / judges + pick(0, 1)));
            for (int paper = -1; paper < papers; paper++) {
                call("match", k, l, paper);
            }
        }
    }

    private int pick(int least, int greatest) {
        return least + random.nextInt(greatest - least + 1);
    }

    /** Mostly within, sometimes just beside it or far off. */
    private int some(boolean calm, int least, int greatest) {
        int chance = random.nextInt(calm ? 200 : 20);
        if (chance == 0) {
            return WILD[random.nextInt(WILD.length)];
        }
        return chance == 1 ? pick(least - 1, greatest + 1) : pick(least, greatest);
    }

    private void call(String name, int... numbers) throws IllegalAccessException, InvocationTargetException {
        Object[] boxed = new Object[numbers.length];
        for (int i = 0; i < numbers.length; i++) {
            boxed[i] = numbers[i];
        }
        calls++;
        long got = ((Number) CALLS.get(name).invoke(object, boxed)).longValue();
        String told = "run " + run + ", call " + calls + ": " + name + Arrays.toString(numbers);
        Due.is(told, got, model.call(name, numbers));
    }

    private void one(boolean c, int kind) throws IllegalAccessException, InvocationTargetException {
        // The model is asked, so that the object has no more than its 512 calls.
        int judges = (int) model.call("told", 0);
        int papers = (int) model.call("told", 1);
        int judge = some(c, 0, Math.max(0, judges - 1));
        int paper = some(c, 0, Math.max(0, papers - 1));
        int bits = some(c, 0, (1 << judges) - 1);
        int part = some(c, 0, 1);
        switch (kind) {
            case 0: call("judge", some(c, -2, 2), some(c, 0, 2)); break;
            case 1: call("paper", some(c, 0, 5), random.nextBoolean() ? judge : PaperMarks.NONE); break;
            case 2: case 3: call("tie", judge, some(c, 0, Math.max(0, judges - 1)), some(c, -1, 1)); break;
            case 4: case 5: case 6: call("mark", judge, paper, some(c, -1, 5)); break;
            case 7: call("mark", judge, paper, 4); break;
            case 8: call("set", some(c, 0, 1), judge, 1 << random.nextInt(2) | random.nextInt(2) << 5); break;
            case 9: call("set", some(c, 0, 2), paper, some(c, -1, 63)); break;
            case 10: call("set", 2, paper, some(c, -1, 9)); break;
            case TEXT: text(c); break;
            case 12: call("fault"); break;
            case 13: call(random.nextInt(8) == 0 ? "wipe" : "rule"); break;
            case 14: call("yes", paper); break;
            case 15: case 16: call("taken", paper, bits, part); break;
            case 17: call("lot", paper, bits, some(c, 0, (1 << judges) - 1), part); break;
            case 18: call("right", some(c, 1, 5), bits, part); break;
            case 19: call("more", judge, some(c, 1, 5), bits & ~(1 << judge), part); break;
            case 20: call("more", judge, some(c, 1, 5), bits, part); break;
            case 21: case 22: call("rounds", paper, bits, some(c, 1, 4), some(c, 0, 1), part); break;
            case 23: call("worth", paper, some(c, 0, 5), part); break;
            case 24: call("joined", judge); break;
            case 25: call("parts"); break;
            case 26: call("harsh", judge, part); break;
            case 27: call("swap", some(c, -1, 3)); break;
            case 28: call("ring", some(c, -1, 3)); break;
            case 29: call("seen", paper, some(c, 0, 1)); break;
            case 30: call("bid", judge, paper, some(c, 0, 3)); break;
            case 31: call("match", some(c, 1, 3), some(c, 1, 4), random.nextBoolean() ? paper : -1); break;
            case 32: call("held", some(c, 0, 1)); break;
            default: call("told", some(c, 0, 4)); break;
        }
    }

    /** A rule's text, now and then with a sign changed, or some signs on their own. */
    private void text(boolean calm) throws IllegalAccessException, InvocationTargetException {
        if (random.nextInt(3) != 0) {
            call("wipe");
        }
        StringBuilder signs = new StringBuilder();
        int clauses = 1 + random.nextInt(random.nextInt(4) == 0 ? 10 : 3);
        for (int clause = 0; clause < clauses; clause++) {
            signs.append(clause == 0 ? "" : ";").append("amlg".charAt(random.nextInt(4))).append('>');
            signs.append(random.nextInt(6) == 0 ? pick(0, 9) : pick(10, 50));
            if (random.nextInt(3) == 0) {
                signs.append('?').append(pick(1, 3));
            }
        }
        if (random.nextInt(4) == 0) {
            String odd = "amlg>?;0123456789x!~ ";
            signs.setCharAt(random.nextInt(signs.length()), odd.charAt(random.nextInt(odd.length())));
        }
        for (int i = 0; i < signs.length(); i++) {
            call("say", calm ? signs.charAt(i) : some(false, signs.charAt(i), signs.charAt(i)));
        }
        call("fault");
        call("rule");
    }
}
