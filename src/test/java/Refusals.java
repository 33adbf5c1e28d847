import java.lang.reflect.Method;
import java.util.ArrayList;
import java.util.Arrays;
import java.util.HashMap;
import java.util.List;
import java.util.Map;

/**
 * Tries a call in a state with all its arguments at their bounds, with each one wrong, and with each
 * two wrong; the first refusal that fits must be answered, and nothing be changed.
 */
final class Refusals {
    /** Refused calls on one object, ahead of a look at it: with all others they stay under 512. */
    private static final int AT_ONCE = 40;
    private static final int FINE = 0;
    private static final Map<String, Method> CALLS = new HashMap<>();
    private static final Map<String, List<Long>> UNTOUCHED = new HashMap<>();

    static {
        for (Method method : PaperMarks.class.getMethods()) {
            CALLS.putIfAbsent(method.getName(), method);
        }
    }

    /** An argument: values at its bounds, values that are refused, and with what. */
    record Argument(int[] fine, int[] wrong, int refusal) {
        boolean isFine(int value) {
            return contains(fine, value);
        }
    }

    /** What stands between arguments, or in the state: a refusal, or 0. */
    interface Between {
        int refusal(int[] numbers);
    }

    private final State state;
    private final String name;
    private final Argument[] arguments;
    private final Between between;
    private final List<int[]> refused = new ArrayList<>();

    private Refusals(State state, String name, Between between, Argument... arguments) {
        this.state = state;
        this.name = name;
        this.between = between;
        this.arguments = arguments;
    }

    static void of(State state, String name, Between between, Argument... arguments) {
        Refusals tried = new Refusals(state, name, between, arguments);
        tried.choose(new int[arguments.length], 0, 2);
        tried.tryRefused();
    }

    static void of(State state, String name, Argument... arguments) {
        of(state, name, numbers -> FINE, arguments);
    }

    static long call(PaperMarks x, String name, int... numbers) {
        Object[] boxed = Arrays.stream(numbers).boxed().toArray();
        try {
            return ((Number) CALLS.get(name).invoke(x, boxed)).longValue();
        } catch (ReflectiveOperationException e) {
            throw new IllegalStateException(name + Arrays.toString(numbers) + " in " + x, e);
        }
    }

    static Argument within(int least, int greatest) {
        int[] wrong = {least - 1, greatest + 1, Integer.MIN_VALUE, Integer.MAX_VALUE};
        return new Argument(new int[] {least, greatest}, wrong, PaperMarks.OUTSIDE);
    }

    /** Of so many things numbered from 0 on. 32 and 64 are wrong ones that a shift takes for 0. */
    static Argument oneOf(int count) {
        int[] wrong = {-1, count, PaperMarks.NONE, 32, 64, Integer.MIN_VALUE, Integer.MAX_VALUE};
        int[] fine = count == 0 ? new int[0] : new int[] {0, count - 1};
        return new Argument(fine, wrong, PaperMarks.UNKNOWN);
    }

    /** One of them, or another number that may be. */
    static Argument oneOfOr(int count, int other) {
        Argument one = oneOf(count);
        int[] fine = Arrays.copyOf(one.fine, one.fine.length + 1);
        fine[one.fine.length] = other;
        int[] wrong = Arrays.stream(one.wrong).filter(value -> value != other).toArray();
        return new Argument(fine, wrong, PaperMarks.UNKNOWN);
    }

    static Argument bits(int judges) {
        return within(0, (1 << judges) - 1);
    }

    static Argument just(int value) {
        return new Argument(new int[] {value}, new int[0], FINE);
    }

    private static boolean contains(int[] row, int value) {
        return Arrays.stream(row).anyMatch(each -> each == value);
    }

    private void choose(int[] numbers, int at, int wrongLeft) {
        if (at == numbers.length) {
            take(numbers.clone());
            return;
        }
        for (int value : arguments[at].fine) {
            numbers[at] = value;
            choose(numbers, at + 1, wrongLeft);
        }
        // Where there is nothing yet an argument has no fine value, and must be wrong.
        boolean mayBeWrong = wrongLeft > 0 || arguments[at].fine.length == 0;
        for (int value : mayBeWrong ? arguments[at].wrong : new int[0]) {
            numbers[at] = value;
            choose(numbers, at + 1, wrongLeft - 1);
        }
    }

    private void take(int[] numbers) {
        if (due(numbers) != FINE) {
            refused.add(numbers);
            return;
        }
        long answer = call(state.made().get(), name, numbers);
        boolean isRefusal = answer <= PaperMarks.UNKNOWN && answer >= PaperMarks.NO
            && CALLS.get(name).getReturnType() == int.class;
        Due.holds(told(numbers) + " is taken, answered " + answer, !isRefusal && answer > PaperMarks.LOST);
    }

    /** The first that fits: they are numbered downwards in that order. */
    private int due(int[] numbers) {
        int first = Integer.MIN_VALUE;
        for (int at = 0; at < numbers.length; at++) {
            if (!arguments[at].isFine(numbers[at])) {
                first = Math.max(first, arguments[at].refusal);
            }
        }
        int other = between.refusal(numbers);
        first = other == FINE ? first : Math.max(first, other);
        return first == Integer.MIN_VALUE ? FINE : first;
    }

    private String told(int[] numbers) {
        return "state " + state.name() + ": " + name + Arrays.toString(numbers);
    }

    private void tryRefused() {
        Due.holds(name + " has refused calls in state " + state.name(), !refused.isEmpty());
        long lost = CALLS.get(name).getReturnType() == long.class ? PaperMarks.LOST : 0;
        for (int from = 0; from < refused.size(); from += AT_ONCE) {
            List<int[]> some = refused.subList(from, Math.min(refused.size(), from + AT_ONCE));
            for (int view = 0; view < Look.VIEWS; view++) {
                PaperMarks x = state.made().get();
                for (int[] numbers : some) {
                    Due.is(told(numbers), call(x, name, numbers), lost + due(numbers));
                }
                String those = told(some.get(0)) + " .. " + Arrays.toString(some.get(some.size() - 1));
                Due.holds(those + " change nothing in view " + view, Look.at(x, view).equals(untouched(view)));
            }
        }
    }

    private List<Long> untouched(int view) {
        return UNTOUCHED.computeIfAbsent(state.name() + view, key -> Look.at(state.made().get(), view));
    }
}
