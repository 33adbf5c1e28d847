import java.math.BigInteger;
import java.util.ArrayList;
import java.util.Arrays;
import java.util.HashMap;
import java.util.List;
import java.util.Map;
import java.util.TreeMap;
import java.util.TreeSet;
import java.util.regex.Matcher;
import java.util.regex.Pattern;

/**
 * The document once more, written apart from the class and as directly as its words go: exact
 * fractions, every outcome laid out, rules read by a regular expression, matches by trying all sets.
 */
final class SlowMarks {
    private static final int UNKNOWN = -1, OUTSIDE = -2, STATE = -3, FULL = -4, NO = -5, NONE = -6;
    private static final BigInteger LOST = BigInteger.TEN.pow(18).negate();
    private static final String CLAUSE = "[amlg]>[0-9]{1,2}(\\?[1-3])?";
    private static final Pattern RULE = Pattern.compile(CLAUSE + "(;" + CLAUSE + ")*");

    private record Judge(int lean, int slip) {
    }

    private record Paper(int worth, int writer) {
    }

    /** A fraction in lowest terms. */
    private record Part(BigInteger upper, BigInteger lower) {
        static final Part ZERO = of(0, 1), ONE = of(1, 1);

        static Part of(long upper, long lower) {
            return of(BigInteger.valueOf(upper), BigInteger.valueOf(lower));
        }

        static Part of(BigInteger upper, BigInteger lower) {
            BigInteger shared = upper.gcd(lower);
            return new Part(upper.divide(shared), lower.divide(shared));
        }

        Part plus(Part other) {
            return of(upper.multiply(other.lower).add(other.upper.multiply(lower)), lower.multiply(other.lower));
        }

        Part minus(Part other) {
            return plus(new Part(other.upper.negate(), other.lower));
        }

        Part times(Part other) {
            return of(upper.multiply(other.upper), lower.multiply(other.lower));
        }

        Part by(long divisor) {
            return of(upper, lower.multiply(BigInteger.valueOf(divisor)));
        }

        long tell(int part) {
            return (part == 0 ? upper : lower).longValueExact();
        }
    }

    private final List<Judge> judges = new ArrayList<>();
    private final List<Paper> papers = new ArrayList<>();
    private final Map<List<Integer>, Integer> ties = new HashMap<>();
    private final Map<List<Integer>, Integer> marks = new HashMap<>();
    private final Map<List<Integer>, Integer> sets = new HashMap<>();
    private final Map<List<Integer>, Integer> bids = new HashMap<>();
    private String signs = "";
    private String rule = "";

    /** A call by its name. */
    long call(String name, int... a) {
        switch (name) {
            case "judge": return judge(a[0], a[1]);
            case "paper": return paper(a[0], a[1]);
            case "tie": return tie(a[0], a[1], a[2]);
            case "mark": return mark(a[0], a[1], a[2]);
            case "set": return set(a[0], a[1], a[2]);
            case "say": return say(a[0]);
            case "wipe": return wipe();
            case "fault": return fault();
            case "rule": return rule();
            case "yes": return yes(a[0]);
            case "taken": return taken(a[0], a[1], a[2]);
            case "lot": return lot(a[0], a[1], a[2], a[3]);
            case "right": return right(a[0], a[1], a[2]);
            case "more": return more(a[0], a[1], a[2], a[3]);
            case "rounds": return rounds(a[0], a[1], a[2], a[3], a[4]);
            case "worth": return worth(a[0], a[1], a[2]);
            case "joined": return joined(a[0]);
            case "parts": return parts();
            case "harsh": return harsh(a[0], a[1]);
            case "swap": return ith(swaps(), a[0]);
            case "ring": return ith(rings(), a[0]);
            case "seen": return seen(a[0], a[1]);
            case "bid": return bid(a[0], a[1], a[2]);
            case "match": return match(a[0], a[1], a[2]);
            case "held": return held(a[0]);
            case "told": return told(a[0]);
            default: throw new IllegalArgumentException(name);
        }
    }

    private boolean noJudge(int judge) {
        return judge < 0 || judge >= judges.size();
    }

    private boolean noPaper(int paper) {
        return paper < 0 || paper >= papers.size();
    }

    private static boolean not(int least, int value, int greatest) {
        return value < least || value > greatest;
    }

    private static long lost(int refusal) {
        return LOST.add(BigInteger.valueOf(refusal)).longValueExact();
    }

    private int judge(int lean, int slip) {
        if (not(-2, lean, 2) || not(0, slip, 2)) return OUTSIDE;
        if (judges.size() == 6) return FULL;
        judges.add(new Judge(lean, slip));
        return judges.size() - 1;
    }

    private int paper(int worth, int writer) {
        if (writer != NONE && noJudge(writer)) return UNKNOWN;
        if (not(0, worth, 5)) return OUTSIDE;
        if (papers.size() == 6) return FULL;
        papers.add(new Paper(worth, writer));
        return papers.size() - 1;
    }

    private int tieOf(int a, int b) {
        return ties.getOrDefault(List.of(Math.min(a, b), Math.max(a, b)), 0);
    }

    private int tie(int a, int b, int v) {
        if (noJudge(a) || noJudge(b) || a == b) return UNKNOWN;
        if (not(-1, v, 1)) return OUTSIDE;
        int was = tieOf(a, b);
        ties.put(List.of(Math.min(a, b), Math.max(a, b)), v);
        return was + 10;
    }

    private static int put(Map<List<Integer>, Integer> map, List<Integer> key, int v, int none) {
        Integer was = v == -1 ? map.remove(key) : map.put(key, v);
        return was == null ? none : was;
    }

    private int mark(int judge, int paper, int v) {
        if (noJudge(judge) || noPaper(paper)) return UNKNOWN;
        if (not(-1, v, 5)) return OUTSIDE;
        if (papers.get(paper).writer == judge) return NO;
        return put(marks, List.of(judge, paper), v, NONE);
    }

    private int set(int which, int i, int v) {
        if (not(0, which, 2)) return OUTSIDE;
        if (which == 0 ? noJudge(i) : noPaper(i)) return UNKNOWN;
        if (which == 2 ? not(-1, v, 9) : not(0, v, 63)) return OUTSIDE;
        return put(sets, List.of(which, i), v, which == 2 ? NONE : 0);
    }

    private int say(int sign) {
        if (not(33, sign, 126)) return OUTSIDE;
        if (signs.length() == 40) return FULL;
        signs += (char) sign;
        return signs.length();
    }

    private int wipe() {
        int was = signs.length();
        signs = "";
        return was;
    }

    private int fault() {
        for (int i = 1; i <= signs.length(); i++) {
            Matcher matcher = RULE.matcher(signs.substring(0, i));
            if (!matcher.matches() && !matcher.hitEnd()) return i - 1;
        }
        return RULE.matcher(signs).matches() ? NONE : signs.length();
    }

    private int rule() {
        if (fault() != NONE) return NO;
        rule = signs;
        signs = "";
        return rule.split(";").length;
    }

    private int quarters(List<Integer> some) {
        if (some.isEmpty()) return 0;
        List<Integer> sorted = new ArrayList<>(some);
        sorted.sort(null);
        for (String clause : rule.split(";")) {
            String[] sides = clause.substring(2).split("\\?");
            int joined;
            switch (clause.charAt(0)) {
                case 'a': joined = 10 * sorted.stream().mapToInt(m -> m).sum() / sorted.size(); break;
                case 'm': joined = 10 * sorted.get((sorted.size() + 1) / 2 - 1); break;
                case 'l': joined = 10 * sorted.get(0); break;
                default: joined = 10 * sorted.get(sorted.size() - 1); break;
            }
            if (joined > Integer.parseInt(sides[0])) return sides.length > 1 ? Integer.parseInt(sides[1]) : 4;
        }
        return 0;
    }

    private List<Integer> marksOf(int paper) {
        List<Integer> all = new ArrayList<>();
        for (int judge = 0; judge < judges.size(); judge++) {
            if (marks.containsKey(List.of(judge, paper))) all.add(marks.get(List.of(judge, paper)));
        }
        return all;
    }

    private int yes(int paper) {
        if (noPaper(paper)) return UNKNOWN;
        if (rule.isEmpty()) return STATE;
        return quarters(marksOf(paper));
    }

    /** What a judge's mark of a paper may be, with how likely each is. */
    private Map<Integer, Part> outcomes(int judge, int writer, int worth) {
        Judge who = judges.get(judge);
        int just = worth + who.lean + (writer == NONE ? 0 : tieOf(judge, writer));
        Map<Integer, Part> odds = new TreeMap<>();
        int[] slips = {who.slip, 4 - 2 * who.slip, who.slip};
        for (int i = 0; i < 3; i++) {
            if (slips[i] > 0) {
                int mark = Math.min(5, Math.max(0, just + i - 1));
                odds.merge(mark, Part.of(slips[i], 4), Part::plus);
            }
        }
        return odds;
    }

    private List<Integer> asked(int paper, int bits) {
        List<Integer> those = new ArrayList<>();
        for (int judge = 0; judge < judges.size(); judge++) {
            if ((bits & (1 << judge)) != 0 && papers.get(paper).writer != judge) those.add(judge);
        }
        return those;
    }

    private Part takenOf(int paper, int bits) {
        Map<List<Integer>, Part> odds = new HashMap<>();
        odds.put(List.of(), Part.ONE);
        Paper what = papers.get(paper);
        for (int judge : asked(paper, bits)) {
            Map<List<Integer>, Part> next = new HashMap<>();
            for (Map.Entry<Integer, Part> outcome : outcomes(judge, what.writer, what.worth).entrySet()) {
                for (Map.Entry<List<Integer>, Part> before : odds.entrySet()) {
                    List<Integer> longer = new ArrayList<>(before.getKey());
                    longer.add(outcome.getKey());
                    longer.sort(null);
                    next.merge(longer, before.getValue().times(outcome.getValue()), Part::plus);
                }
            }
            odds = next;
        }
        Part sum = Part.ZERO;
        for (Map.Entry<List<Integer>, Part> each : odds.entrySet()) {
            sum = sum.plus(each.getValue().times(Part.of(quarters(each.getKey()), 4)));
        }
        return sum;
    }

    private int refusal(boolean unknown, boolean outside) {
        return unknown ? UNKNOWN : outside ? OUTSIDE : rule.isEmpty() ? STATE : 0;
    }

    private boolean notJudges(int bits) {
        return bits < 0 || bits >> judges.size() != 0;
    }

    private long taken(int paper, int bits, int part) {
        int refused = refusal(noPaper(paper), notJudges(bits) || not(0, part, 1));
        return refused != 0 ? lost(refused) : takenOf(paper, bits).tell(part);
    }

    private long lot(int paper, int one, int two, int part) {
        int refused = refusal(noPaper(paper), notJudges(one) || notJudges(two) || not(0, part, 1));
        if (refused != 0) return lost(refused);
        Part p = takenOf(paper, one);
        Part q = takenOf(paper, two);
        return p.times(Part.ONE.minus(q)).plus(q.times(Part.ONE.minus(p))).tell(part);
    }

    private Part rightOf(int bar, int bits) {
        Part sum = Part.ZERO;
        for (int paper = 0; paper < papers.size(); paper++) {
            Part odds = takenOf(paper, bits);
            sum = sum.plus(papers.get(paper).worth >= bar ? odds : Part.ONE.minus(odds));
        }
        return sum;
    }

    private long right(int bar, int bits, int part) {
        int refused = refusal(false, not(1, bar, 5) || notJudges(bits) || not(0, part, 1));
        return refused != 0 ? lost(refused) : rightOf(bar, bits).tell(part);
    }

    private long more(int judge, int bar, int bits, int part) {
        boolean outside = not(1, bar, 5) || notJudges(bits) || not(0, part, 1);
        int refused = refusal(noJudge(judge), outside || (bits & (1 << judge)) != 0);
        if (refused != 0) return lost(refused);
        return rightOf(bar, bits + (1 << judge)).minus(rightOf(bar, bits)).tell(part);
    }

    private long rounds(int paper, int bits, int r, int what, int part) {
        boolean outside = notJudges(bits) || not(1, r, 4) || not(0, what, 1) || not(0, part, 1);
        int refused = refusal(noPaper(paper), outside);
        if (refused != 0) return lost(refused);
        Part once = takenOf(paper, bits);
        Part still = Part.ONE;
        Part odds = Part.ZERO;
        Part given = Part.ZERO;
        for (int time = 0; time < r; time++) {
            given = given.plus(still.times(Part.of(asked(paper, bits).size(), 1)));
            odds = odds.plus(still.times(once));
            still = still.times(Part.ONE.minus(once));
        }
        return (what == 0 ? odds : given).tell(part);
    }

    private Part likely(int paper, int worth) {
        Part all = Part.ONE;
        for (int judge = 0; judge < judges.size(); judge++) {
            Integer mark = marks.get(List.of(judge, paper));
            if (mark != null) {
                all = all.times(outcomes(judge, papers.get(paper).writer, worth).getOrDefault(mark, Part.ZERO));
            }
        }
        return all;
    }

    private long worth(int paper, int worth, int part) {
        if (noPaper(paper)) return lost(UNKNOWN);
        if (not(0, worth, 5) || not(0, part, 1)) return lost(OUTSIDE);
        Part all = Part.ZERO;
        for (int each = 0; each <= 5; each++) {
            all = all.plus(likely(paper, each));
        }
        if (all.upper.signum() == 0) return Part.ZERO.tell(part);
        return likely(paper, worth).times(Part.of(all.lower, all.upper)).tell(part);
    }

    private int joinedOf(int judge) {
        TreeSet<Integer> part = new TreeSet<>();
        List<Integer> waiting = new ArrayList<>();
        waiting.add(judge);
        while (!waiting.isEmpty()) {
            int one = waiting.remove(0);
            for (List<Integer> own : marks.keySet()) {
                for (List<Integer> other : marks.keySet()) {
                    if (own.get(0) == one && own.get(1).equals(other.get(1)) && part.add(other.get(0))) {
                        waiting.add(other.get(0));
                    }
                }
            }
        }
        return part.stream().mapToInt(j -> 1 << j).sum();
    }

    private int joined(int judge) {
        return noJudge(judge) ? UNKNOWN : joinedOf(judge);
    }

    private int parts() {
        TreeSet<Integer> all = new TreeSet<>();
        for (int judge = 0; judge < judges.size(); judge++) {
            all.add(joinedOf(judge));
        }
        all.remove(0);
        return all.size();
    }

    private long harsh(int judge, int part) {
        if (noJudge(judge)) return lost(UNKNOWN);
        if (not(0, part, 1)) return lost(OUTSIDE);
        Part sum = Part.ZERO;
        int counted = 0;
        for (int paper = 0; paper < papers.size(); paper++) {
            Integer own = marks.get(List.of(judge, paper));
            List<Integer> others = marksOf(paper);
            if (own != null && others.size() > 1) {
                others.remove(own);
                int total = others.stream().mapToInt(m -> m).sum();
                sum = sum.plus(Part.of(own, 1).minus(Part.of(total, others.size())));
                counted++;
            }
        }
        return counted == 0 ? Part.ZERO.tell(part) : sum.by(counted).tell(part);
    }

    private boolean high(int judge, int writer) {
        return marks.entrySet().stream().anyMatch(e -> e.getKey().get(0) == judge && e.getValue() >= 4
            && papers.get(e.getKey().get(1)).writer == writer);
    }

    private TreeSet<Integer> swaps() {
        TreeSet<Integer> all = new TreeSet<>();
        for (int a = 0; a < judges.size(); a++) {
            for (int b = 0; b < judges.size(); b++) {
                if (a != b && high(a, b) && high(b, a)) all.add(10 * Math.min(a, b) + Math.max(a, b));
            }
        }
        return all;
    }

    private TreeSet<Integer> rings() {
        TreeSet<Integer> all = new TreeSet<>();
        for (int three = 0; three < 1000; three++) {
            int a = three / 100;
            int b = three / 10 % 10;
            int c = three % 10;
            if (a < b && a < c && b != c && high(a, b) && high(b, c) && high(c, a)) all.add(three);
        }
        return all;
    }

    private static int ith(TreeSet<Integer> all, int i) {
        if (i == -1) return all.size();
        return i < 0 || i >= all.size() ? NONE : new ArrayList<>(all).get(i);
    }

    private int seen(int paper, int what) {
        if (noPaper(paper)) return UNKNOWN;
        if (not(0, what, 1)) return OUTSIDE;
        int keys = sets.getOrDefault(List.of(1, paper), 0);
        List<Integer> able = new ArrayList<>();
        for (int judge = 0; judge < judges.size(); judge++) {
            if ((keys & ~sets.getOrDefault(List.of(0, judge), 0)) == 0) able.add(judge);
        }
        if (what == 1) return able.equals(List.of(papers.get(paper).writer)) ? 1 : 0;
        return able.stream().mapToInt(j -> 1 << j).sum();
    }

    private int bid(int judge, int paper, int v) {
        if (noJudge(judge) || noPaper(paper)) return UNKNOWN;
        if (not(0, v, 3)) return OUTSIDE;
        return put(bids, List.of(judge, paper), v, 0);
    }

    /** The best from this paper on: bids together, then the sets; null if there is none. */
    private int[] best(int paper, int k, int[] left, Map<List<Integer>, int[]> known) {
        if (paper == papers.size()) return new int[] {0};
        List<Integer> key = new ArrayList<>(List.of(paper));
        for (int each : left) key.add(each);
        if (known.containsKey(key)) return known.get(key);
        int[] found = null;
        for (int bits = 0; bits < 1 << judges.size(); bits++) {
            int own = Integer.bitCount(bits) == k ? bidsOf(paper, bits, left) : -1;
            if (own >= 0) {
                int[] less = left.clone();
                for (int j = 0; j < less.length; j++) less[j] -= bits >> j & 1;
                int[] rest = best(paper + 1, k, less, known);
                if (rest != null && (found == null || own + rest[0] > found[0])) {
                    found = new int[rest.length + 1];
                    found[0] = own + rest[0];
                    found[1] = bits;
                    System.arraycopy(rest, 1, found, 2, rest.length - 1);
                }
            }
        }
        known.put(key, found);
        return found;
    }

    private int bidsOf(int paper, int bits, int[] left) {
        int writer = papers.get(paper).writer;
        int sum = 0;
        for (int judge = 0; judge < judges.size(); judge++) {
            if ((bits >> judge & 1) == 1) {
                if (left[judge] == 0 || judge == writer || writer != NONE && tieOf(judge, writer) == -1) return -1;
                sum += bids.getOrDefault(List.of(judge, paper), 0);
            }
        }
        return sum;
    }

    private int match(int k, int l, int paper) {
        if (paper != -1 && noPaper(paper)) return UNKNOWN;
        if (not(1, k, 3) || not(1, l, 4)) return OUTSIDE;
        int[] left = new int[judges.size()];
        Arrays.fill(left, l);
        int[] found = best(0, k, left, new HashMap<>());
        return found == null ? NO : found[paper + 1];
    }

    private int held(int what) {
        if (not(0, what, 1)) return OUTSIDE;
        int pairs = 0;
        for (int one = 0; one < papers.size(); one++) {
            for (int two = 0; two < papers.size(); two++) {
                Integer a = sets.get(List.of(2, one));
                Integer b = sets.get(List.of(2, two));
                if (a != null && b != null && a > b && !marksOf(one).isEmpty() && !marksOf(two).isEmpty()) {
                    int sign = mean(one).minus(mean(two)).upper.signum();
                    if (sign == (what == 0 ? 1 : -1)) pairs++;
                }
            }
        }
        return pairs;
    }

    private Part mean(int paper) {
        List<Integer> all = marksOf(paper);
        return Part.of(all.stream().mapToInt(m -> m).sum(), all.size());
    }

    private int told(int what) {
        switch (what) {
            case 0: return judges.size();
            case 1: return papers.size();
            case 2: return signs.length();
            case 3: return rule.isEmpty() ? 0 : rule.split(";").length;
            case 4: return marks.size();
            default: return OUTSIDE;
        }
    }
}
