import java.util.Arrays;

/**
 * Papers, the judges who mark them, the rule that joins marks to a yes, and what all of that tells.
 * The public methods test their arguments and answer refusals; the classes inside do the counting.
 */
public final class PaperMarks {
    public static final int UNKNOWN = -1, OUTSIDE = -2, STATE = -3, FULL = -4, NO = -5, NONE = -6;
    public static final long LOST = -1000000000000000000L;

    /** Judges at most, and papers at most. */
    private static final int MOST = 6;
    /** The greatest mark and the greatest worth. */
    private static final int TOP = 5;
    /** A mark from here on counts as a favour in swaps and rings. */
    private static final int HIGH = 4;
    private static final int TOP_KEYS = 63;
    private static final int TOP_LATER = 9;
    private static final int TOP_BID = 3;
    private static final int FOE = -1, FRIEND = 1;
    /** What clears a mark or a later year's number. */
    private static final int CLEAR = -1;
    /** Asked for with swap, ring and match: the whole, not one of its parts. */
    private static final int ALL = -1;
    /** What a test of arguments answers when nothing is to be refused. */
    private static final int FINE = 0;

    private final Judges judges;
    private final Papers papers;
    private final Marks marks;
    private final Signs signs;
    private final Rule rule;
    private final Odds odds;
    private final Match match;

    public PaperMarks() {
        judges = new Judges();
        papers = new Papers();
        marks = new Marks();
        signs = new Signs();
        rule = new Rule();
        odds = new Odds(judges, papers, rule);
        match = new Match(judges, papers);
    }

    // ---- 1 papers, judges, marks

    public int judge(int lean, int slip) {
        if (!within(lean, -2, 2) || !within(slip, 0, 2)) {
            return OUTSIDE;
        }
        return judges.add(lean, slip);
    }

    public int paper(int worth, int writer) {
        if (writer != NONE && !judges.has(writer)) {
            return UNKNOWN;
        }
        if (!within(worth, 0, TOP)) {
            return OUTSIDE;
        }
        return papers.add(worth, writer);
    }

    public int tie(int a, int b, int v) {
        if (!judges.has(a) || !judges.has(b) || a == b) {
            return UNKNOWN;
        }
        if (!within(v, FOE, FRIEND)) {
            return OUTSIDE;
        }
        int before = judges.tieOf(a, b);
        judges.putTie(a, b, v);
        return before + 10;
    }

    public int mark(int judge, int paper, int v) {
        if (!judges.has(judge) || !papers.has(paper)) {
            return UNKNOWN;
        }
        if (!within(v, CLEAR, TOP)) {
            return OUTSIDE;
        }
        if (papers.writers[paper] == judge) {
            return NO;
        }
        return replace(marks.came, judge * MOST + paper, v == CLEAR ? NONE : v);
    }

    public int set(int which, int i, int v) {
        switch (which) {
            case 0:
                return setKeys(judges.keys, judges.has(i), i, v);
            case 1:
                return setKeys(papers.keys, papers.has(i), i, v);
            case 2:
                return setLater(i, v);
            default:
                return OUTSIDE;
        }
    }

    private static int setKeys(int[] keys, boolean known, int i, int v) {
        if (!known) {
            return UNKNOWN;
        }
        return within(v, 0, TOP_KEYS) ? replace(keys, i, v) : OUTSIDE;
    }

    private int setLater(int paper, int v) {
        if (!papers.has(paper)) {
            return UNKNOWN;
        }
        if (!within(v, CLEAR, TOP_LATER)) {
            return OUTSIDE;
        }
        return replace(papers.laters, paper, v == CLEAR ? NONE : v);
    }

    // ---- 2 rules

    public int say(int sign) {
        return within(sign, 33, 126) ? signs.add(sign) : OUTSIDE;
    }

    public int wipe() {
        return signs.clear();
    }

    public int fault() {
        return signs.firstFault();
    }

    public int rule() {
        if (signs.firstFault() != NONE) {
            return NO;
        }
        rule.read(signs);
        signs.clear();
        return rule.count;
    }

    public int yes(int paper) {
        if (!papers.has(paper)) {
            return UNKNOWN;
        }
        if (rule.count == 0) {
            return STATE;
        }
        return rule.quarters(marks.tallyOf(paper));
    }

    // ---- 3 odds

    public long taken(int paper, int judges, int part) {
        int refusal = refusalOfOdds(papers.has(paper), areJudges(judges) && isPart(part));
        if (refusal != FINE) {
            return LOST + refusal;
        }
        return tell(odds.waysTaken(paper, judges), Odds.WAYS, part);
    }

    public long lot(int paper, int one, int two, int part) {
        int refusal = refusalOfOdds(papers.has(paper), areJudges(one) && areJudges(two) && isPart(part));
        if (refusal != FINE) {
            return LOST + refusal;
        }
        long first = odds.waysTaken(paper, one);
        long second = odds.waysTaken(paper, two);
        long unlike = first * (Odds.WAYS - second) + second * (Odds.WAYS - first);
        return tell(unlike, Odds.WAYS * Odds.WAYS, part);
    }

    public long right(int bar, int judges, int part) {
        int refusal = refusalOfOdds(true, isBar(bar) && areJudges(judges) && isPart(part));
        if (refusal != FINE) {
            return LOST + refusal;
        }
        return tell(odds.waysRight(bar, judges), Odds.WAYS, part);
    }

    public long more(int judge, int bar, int judges, int part) {
        boolean inside = isBar(bar) && areJudges(judges) && isPart(part);
        boolean known = this.judges.has(judge);
        int refusal = refusalOfOdds(known, inside && !hasBit(judges, judge));
        if (refusal != FINE) {
            return LOST + refusal;
        }
        long with = odds.waysRight(bar, judges | 1 << judge);
        return tell(with - odds.waysRight(bar, judges), Odds.WAYS, part);
    }

    public long rounds(int paper, int judges, int r, int what, int part) {
        boolean inside = areJudges(judges) && within(r, 1, 4) && within(what, 0, 1) && isPart(part);
        int refusal = refusalOfOdds(papers.has(paper), inside);
        if (refusal != FINE) {
            return LOST + refusal;
        }
        long missed = Odds.WAYS - odds.waysTaken(paper, judges);
        if (what == 0) {
            long all = power(Odds.WAYS, r);
            return tell(all - power(missed, r), all, part);
        }
        // The n-th time is come to only if all times before it missed.
        long times = 0;
        for (int before = 0; before < r; before++) {
            times += power(missed, before) * power(Odds.WAYS, r - 1 - before);
        }
        int asked = Integer.bitCount(papers.withoutWriter(paper, judges));
        return tell(asked * times, power(Odds.WAYS, r - 1), part);
    }

    // ---- 4 what marks tell

    public long worth(int paper, int worth, int part) {
        if (!papers.has(paper)) {
            return LOST + UNKNOWN;
        }
        if (!within(worth, 0, TOP) || !isPart(part)) {
            return LOST + OUTSIDE;
        }
        long all = 0;
        for (int each = 0; each <= TOP; each++) {
            all += odds.waysOfMarks(marks, paper, each);
        }
        return tell(odds.waysOfMarks(marks, paper, worth), all, part);
    }

    public int joined(int judge) {
        return judges.has(judge) ? marks.joinedWith(judge) : UNKNOWN;
    }

    public int parts() {
        int parts = 0;
        for (int judge = 0; judge < judges.count; judge++) {
            int part = marks.joinedWith(judge);
            // Each part is counted once, at its least judge.
            if ((part & -part) == 1 << judge) {
                parts++;
            }
        }
        return parts;
    }

    public long harsh(int judge, int part) {
        if (!judges.has(judge)) {
            return LOST + UNKNOWN;
        }
        if (!isPart(part)) {
            return LOST + OUTSIDE;
        }
        long above = 0;
        int counted = 0;
        for (int paper = 0; paper < papers.count; paper++) {
            if (marks.comparable(judge, paper)) {
                above += marks.aboveOthers(judge, paper);
                counted++;
            }
        }
        return tell(above, (long) counted * Marks.SHARES, part);
    }

    public int swap(int i) {
        int found = 0;
        for (int a = 0; a < judges.count; a++) {
            for (int b = a + 1; b < judges.count; b++) {
                if (favours(a, b) && favours(b, a)) {
                    if (found == i) {
                        return 10 * a + b;
                    }
                    found++;
                }
            }
        }
        return i == ALL ? found : NONE;
    }

    public int ring(int i) {
        int found = 0;
        for (int a = 0; a < judges.count; a++) {
            for (int b = a + 1; b < judges.count; b++) {
                for (int c = a + 1; c < judges.count; c++) {
                    if (b != c && favours(a, b) && favours(b, c) && favours(c, a)) {
                        if (found == i) {
                            return 100 * a + 10 * b + c;
                        }
                        found++;
                    }
                }
            }
        }
        return i == ALL ? found : NONE;
    }

    public int seen(int paper, int what) {
        if (!papers.has(paper)) {
            return UNKNOWN;
        }
        if (!within(what, 0, 1)) {
            return OUTSIDE;
        }
        int able = judges.withKeys(papers.keys[paper]);
        if (what == 0) {
            return able;
        }
        int writer = papers.writers[paper];
        return writer != NONE && able == 1 << writer ? 1 : 0;
    }

    // ---- 5 matches, later years

    public int bid(int judge, int paper, int v) {
        if (!judges.has(judge) || !papers.has(paper)) {
            return UNKNOWN;
        }
        if (!within(v, 0, TOP_BID)) {
            return OUTSIDE;
        }
        return replace(papers.bids, judge * MOST + paper, v);
    }

    public int match(int k, int l, int paper) {
        if (paper != ALL && !papers.has(paper)) {
            return UNKNOWN;
        }
        if (!within(k, 1, 3) || !within(l, 1, 4)) {
            return OUTSIDE;
        }
        if (!match.find(k, l)) {
            return NO;
        }
        return paper == ALL ? match.bidsTogether() : match.sets[paper];
    }

    public int held(int what) {
        if (!within(what, 0, 1)) {
            return OUTSIDE;
        }
        int due = what == 0 ? 1 : -1;
        int pairs = 0;
        for (int one = 0; one < papers.count; one++) {
            for (int two = one + 1; two < papers.count; two++) {
                if (agreement(one, two) == due) {
                    pairs++;
                }
            }
        }
        return pairs;
    }

    public int told(int what) {
        switch (what) {
            case 0:
                return judges.count;
            case 1:
                return papers.count;
            case 2:
                return signs.count;
            case 3:
                return rule.count;
            case 4:
                return marks.countAll();
            default:
                return OUTSIDE;
        }
    }

    // ---- helpers of the calls

    private static boolean within(int value, int least, int greatest) {
        return value >= least && value <= greatest;
    }

    private static boolean isPart(int part) {
        return within(part, 0, 1);
    }

    private static boolean isBar(int bar) {
        return within(bar, 1, TOP);
    }

    private boolean areJudges(int bits) {
        return within(bits, 0, (1 << judges.count) - 1);
    }

    private static boolean hasBit(int bits, int place) {
        return (bits >> place & 1) == 1;
    }

    private static int replace(int[] row, int place, int value) {
        int before = row[place];
        row[place] = value;
        return before;
    }

    private int refusalOfOdds(boolean known, boolean inside) {
        if (!known) {
            return UNKNOWN;
        }
        if (!inside) {
            return OUTSIDE;
        }
        return rule.count == 0 ? STATE : FINE;
    }

    /** One part of a fraction in lowest terms; 0 by 1 also where nothing was there to divide by. */
    private static long tell(long upper, long lower, int part) {
        long shared = greatestDivisor(Math.abs(upper), lower);
        if (upper == 0 || lower == 0 || shared == 0) {
            return part == 0 ? 0 : 1;
        }
        return (part == 0 ? upper : lower) / shared;
    }

    private static long greatestDivisor(long one, long two) {
        // Two longs need fewer than a hundred steps of Euclid's.
        for (int step = 0; step < 100 && two != 0; step++) {
            long rest = one % two;
            one = two;
            two = rest;
        }
        return one;
    }

    private static long power(long base, int times) {
        long product = 1;
        for (int time = 0; time < times; time++) {
            product *= base;
        }
        return product;
    }

    private boolean favours(int judge, int writer) {
        for (int paper = 0; paper < papers.count; paper++) {
            if (papers.writers[paper] == writer && marks.of(judge, paper) >= HIGH) {
                return true;
            }
        }
        return false;
    }

    /** 1: the mean marks of two papers stand as their later numbers do, -1: the other way round. */
    private int agreement(int one, int two) {
        int numberOne = papers.laters[one];
        int numberTwo = papers.laters[two];
        int countOne = marks.countOf(one);
        int countTwo = marks.countOf(two);
        if (numberOne == NONE || numberTwo == NONE || countOne == 0 || countTwo == 0) {
            return 0;
        }
        // Multiplied out, so that no mean is cut.
        int means = Integer.compare(marks.sumOf(one) * countTwo, marks.sumOf(two) * countOne);
        return means * Integer.compare(numberOne, numberTwo);
    }

    /** The judges, and how they stand to one another. */
    private static final class Judges {
        final int[] leans = new int[MOST];
        final int[] slips = new int[MOST];
        final int[] keys = new int[MOST];
        final int[] ties = new int[MOST * MOST];
        int count;

        boolean has(int judge) {
            return judge >= 0 && judge < count;
        }

        int add(int lean, int slip) {
            if (count >= MOST) {
                return FULL;
            }
            leans[count] = lean;
            slips[count] = slip;
            return count++;
        }

        /** Also of a writer that is NONE: with nobody there is no tie. */
        int tieOf(int a, int b) {
            return has(a) && has(b) ? ties[a * MOST + b] : 0;
        }

        void putTie(int a, int b, int v) {
            ties[a * MOST + b] = v;
            ties[b * MOST + a] = v;
        }

        int withKeys(int wanted) {
            int able = 0;
            for (int judge = 0; judge < count; judge++) {
                if ((keys[judge] & wanted) == wanted) {
                    able |= 1 << judge;
                }
            }
            return able;
        }
    }

    /** The papers, and the bids for them. */
    private static final class Papers {
        final int[] worths = new int[MOST];
        final int[] writers = new int[MOST];
        final int[] keys = new int[MOST];
        final int[] laters = new int[MOST];
        final int[] bids = new int[MOST * MOST];
        int count;

        boolean has(int paper) {
            return paper >= 0 && paper < count;
        }

        int add(int worth, int writer) {
            if (count >= MOST) {
                return FULL;
            }
            worths[count] = worth;
            writers[count] = writer;
            laters[count] = NONE;
            return count++;
        }

        int bidOf(int judge, int paper) {
            return bids[judge * MOST + paper];
        }

        int withoutWriter(int paper, int judges) {
            int writer = writers[paper];
            return writer == NONE ? judges : judges & ~(1 << writer);
        }
    }

    /** The marks that came. */
    private static final class Marks {
        /** A mean of up to five marks is a whole number of these shares. */
        static final int SHARES = 60;

        final int[] came = new int[MOST * MOST];
        final Tally tally = new Tally();

        Marks() {
            Arrays.fill(came, NONE);
        }

        int of(int judge, int paper) {
            return came[judge * MOST + paper];
        }

        boolean has(int judge, int paper) {
            return of(judge, paper) != NONE;
        }

        int countAll() {
            int all = 0;
            for (int paper = 0; paper < MOST; paper++) {
                all += countOf(paper);
            }
            return all;
        }

        int countOf(int paper) {
            return Integer.bitCount(judgesOf(paper));
        }

        int sumOf(int paper) {
            int sum = 0;
            for (int judge = 0; judge < MOST; judge++) {
                sum += has(judge, paper) ? of(judge, paper) : 0;
            }
            return sum;
        }

        Tally tallyOf(int paper) {
            tally.clear();
            for (int judge = 0; judge < MOST; judge++) {
                if (has(judge, paper)) {
                    tally.put(of(judge, paper), 1);
                }
            }
            return tally;
        }

        int judgesOf(int paper) {
            int bits = 0;
            for (int judge = 0; judge < MOST; judge++) {
                bits |= has(judge, paper) ? 1 << judge : 0;
            }
            return bits;
        }

        int joinedWith(int judge) {
            int part = 0;
            int next = 1 << judge;
            // Each round goes one paper further, and nobody is further off than there are judges.
            for (int round = 0; round < MOST; round++) {
                for (int paper = 0; paper < MOST; paper++) {
                    int those = judgesOf(paper);
                    if ((those & next) != 0) {
                        part |= those;
                    }
                }
                next |= part;
            }
            return part;
        }

        boolean comparable(int judge, int paper) {
            return has(judge, paper) && countOf(paper) > 1;
        }

        /** How far a mark stands above the mean of the paper's other marks, in shares. */
        int aboveOthers(int judge, int paper) {
            int others = countOf(paper) - 1;
            if (others <= 0) {
                return 0;
            }
            int own = of(judge, paper);
            return own * SHARES - (sumOf(paper) - own) * (SHARES / others);
        }
    }

    /** How many marks there are of each kind: all that a rule looks at. */
    private static final class Tally {
        final int[] counts = new int[TOP + 1];
        int count;
        int sum;

        void clear() {
            Arrays.fill(counts, 0);
            count = 0;
            sum = 0;
        }

        void put(int mark, int times) {
            counts[mark] += times;
            count += times;
            sum += mark * times;
        }

        /** Ten times what a join makes of these marks. */
        int tenths(int join) {
            switch (join) {
                case 'a':
                    return count > 0 ? 10 * sum / count : 0;
                case 'm':
                    return 10 * fromBelow((count - 1) / 2);
                case 'l':
                    return 10 * fromBelow(0);
                default:
                    return 10 * fromBelow(count - 1);
            }
        }

        private int fromBelow(int place) {
            int passed = 0;
            for (int mark = 0; mark < TOP; mark++) {
                passed += counts[mark];
                if (passed > place) {
                    return mark;
                }
            }
            return TOP;
        }
    }

    /** The signs said so far, and the form that a rule's text must have. */
    private static final class Signs {
        static final int MOST_SIGNS = 40;
        // What has just been read, and with it what may come next; BEGIN also behind a ;
        static final int WRONG = -1, BEGIN = 0, JOIN = 1, MORE_THAN = 2, DIGIT = 3, DIGITS = 4, ASK = 5, COIN = 6;

        final int[] signs = new int[MOST_SIGNS];
        int count;

        int add(int sign) {
            if (count >= MOST_SIGNS) {
                return FULL;
            }
            signs[count] = sign;
            count++;
            return count;
        }

        int clear() {
            int before = count;
            count = 0;
            return before;
        }

        int firstFault() {
            int state = BEGIN;
            for (int place = 0; place < count; place++) {
                state = after(state, signs[place]);
                if (state == WRONG) {
                    return place;
                }
            }
            return mayEnd(state) ? NONE : count;
        }

        static boolean mayEnd(int state) {
            return state == DIGIT || state == DIGITS || state == COIN;
        }

        static int after(int state, int sign) {
            switch (state) {
                case BEGIN:
                    return sign == 'a' || sign == 'm' || sign == 'l' || sign == 'g' ? JOIN : WRONG;
                case JOIN:
                    return sign == '>' ? MORE_THAN : WRONG;
                case MORE_THAN:
                    return isDigit(sign) ? DIGIT : WRONG;
                case DIGIT:
                    return isDigit(sign) ? DIGITS : afterNumber(sign);
                case DIGITS:
                    return afterNumber(sign);
                case ASK:
                    return sign >= '1' && sign <= '3' ? COIN : WRONG;
                case COIN:
                    return sign == ';' ? BEGIN : WRONG;
                default:
                    return WRONG;
            }
        }

        private static boolean isDigit(int sign) {
            return sign >= '0' && sign <= '9';
        }

        private static int afterNumber(int sign) {
            if (sign == '?') {
                return ASK;
            }
            return sign == ';' ? BEGIN : WRONG;
        }
    }

    /** The clauses of the rule in force; none until a first text was read. */
    private static final class Rule {
        /** The shortest clause has three signs, and a ; goes between two. */
        static final int MOST_CLAUSES = (Signs.MOST_SIGNS + 1) / 4;
        static final int SURE = 4;

        final int[] joins = new int[MOST_CLAUSES];
        final int[] numbers = new int[MOST_CLAUSES];
        final int[] coins = new int[MOST_CLAUSES];
        int count;

        /** Takes over a text that has no fault. */
        void read(Signs text) {
            int state = Signs.BEGIN;
            count = 0;
            for (int place = 0; place < text.count; place++) {
                int sign = text.signs[place];
                state = Signs.after(state, sign);
                if (state == Signs.JOIN && count < MOST_CLAUSES) {
                    begin(sign);
                } else if (count > 0) {
                    goOn(count - 1, state, sign - '0');
                }
            }
        }

        private void begin(int join) {
            joins[count] = join;
            numbers[count] = 0;
            coins[count] = SURE;
            count++;
        }

        private void goOn(int clause, int state, int digit) {
            if (state == Signs.DIGIT || state == Signs.DIGITS) {
                numbers[clause] = 10 * numbers[clause] + digit;
            } else if (state == Signs.COIN) {
                coins[clause] = digit;
            }
        }

        int quarters(Tally tally) {
            if (tally.count <= 0) {
                return 0;
            }
            for (int clause = 0; clause < count; clause++) {
                if (tally.tenths(joins[clause]) > numbers[clause]) {
                    return coins[clause];
                }
            }
            return 0;
        }
    }

    /** Counts ways: each judge has four that are alike likely, and so has the coin. */
    private static final class Odds {
        /** All ways of six judges and the coin. Judges that are not asked go through theirs without a mark. */
        static final long WAYS = 16384;

        final Judges judges;
        final Papers papers;
        final Rule rule;
        final Tally tally = new Tally();
        /** The ways of each judge to each mark of the paper that is asked for. */
        final int[] ways = new int[MOST * (TOP + 1)];

        Odds(Judges judges, Papers papers, Rule rule) {
            this.judges = judges;
            this.papers = papers;
            this.rule = rule;
        }

        long waysTaken(int paper, int asked) {
            tally.clear();
            layOutWays(paper);
            return waysFrom(0, papers.withoutWriter(paper, asked));
        }

        private void layOutWays(int paper) {
            for (int judge = 0; judge < judges.count; judge++) {
                for (int mark = 0; mark <= TOP; mark++) {
                    ways[judge * (TOP + 1) + mark] = waysOfMark(judge, paper, papers.worths[paper], mark);
                }
            }
        }

        /** The ways in which the judges from this one on, and the coin, end in a yes. */
        private long waysFrom(int judge, int asked) {
            if (judge >= MOST) {
                return rule.quarters(tally);
            }
            if (!hasBit(asked, judge)) {
                return 4 * waysFrom(judge + 1, asked);
            }
            long all = 0;
            for (int mark = 0; mark <= TOP; mark++) {
                int here = ways[judge * (TOP + 1) + mark];
                if (here > 0) {
                    tally.put(mark, 1);
                    all += here * waysFrom(judge + 1, asked);
                    tally.put(mark, -1);
                }
            }
            return all;
        }

        long waysRight(int bar, int asked) {
            long all = 0;
            for (int paper = 0; paper < papers.count; paper++) {
                long taking = waysTaken(paper, asked);
                all += papers.worths[paper] >= bar ? taking : WAYS - taking;
            }
            return all;
        }

        /** The ways to all marks of a paper that came, had it this worth. */
        long waysOfMarks(Marks marks, int paper, int worth) {
            long all = 1;
            for (int judge = 0; judge < judges.count; judge++) {
                if (marks.has(judge, paper)) {
                    all *= waysOfMark(judge, paper, worth, marks.of(judge, paper));
                }
            }
            return all;
        }

        private int waysOfMark(int judge, int paper, int worth, int mark) {
            int meant = worth + judges.leans[judge] + judges.tieOf(judge, papers.writers[paper]);
            int slip = judges.slips[judge];
            int all = 0;
            all += bounded(meant - 1) == mark ? slip : 0;
            all += bounded(meant) == mark ? 4 - 2 * slip : 0;
            all += bounded(meant + 1) == mark ? slip : 0;
            return all;
        }

        private static int bounded(int mark) {
            return Math.max(0, Math.min(TOP, mark));
        }
    }

    /**
     * Gives papers to judges: one place of a paper after another is filled, each time by the chain
     * of changes that gains most, which keeps what is given the best of its size. The weight of a
     * judge with a paper is the bid, and far below it the bit that it sets in the row of sets, so
     * that of several best ones the first is the heaviest, and no two weigh the same.
     */
    private static final class Match {
        static final long UNREACHED = -(1L << 60);

        final Judges judges;
        final Papers papers;
        final int[] sets = new int[MOST];
        final int[] wants = new int[MOST];
        final int[] loads = new int[MOST];
        final long[] paperGains = new long[MOST];
        final long[] judgeGains = new long[MOST];
        /** The judge who would give up this paper, or NONE where a chain begins. */
        final int[] givers = new int[MOST];
        /** The paper that this judge would get. */
        final int[] gets = new int[MOST];

        Match(Judges judges, Papers papers) {
            this.judges = judges;
            this.papers = papers;
        }

        boolean find(int k, int l) {
            Arrays.fill(sets, 0);
            Arrays.fill(loads, 0);
            Arrays.fill(wants, k);
            for (int place = 0; place < k * papers.count; place++) {
                spreadChains();
                int last = bestEnd(l);
                if (last == NONE) {
                    return false;
                }
                change(last);
            }
            return true;
        }

        int bidsTogether() {
            int together = 0;
            for (int paper = 0; paper < papers.count; paper++) {
                for (int judge = 0; judge < judges.count; judge++) {
                    together += hasBit(sets[paper], judge) ? papers.bidOf(judge, paper) : 0;
                }
            }
            return together;
        }

        private boolean allows(int judge, int paper) {
            int writer = papers.writers[paper];
            return writer != judge && judges.tieOf(judge, writer) != FOE;
        }

        private long weight(int judge, int paper) {
            long bid = papers.bidOf(judge, paper);
            int place = (MOST - 1 - paper) * MOST + judge;
            return (bid << (MOST * MOST)) - (1L << place);
        }

        private void spreadChains() {
            for (int paper = 0; paper < MOST; paper++) {
                paperGains[paper] = wants[paper] > 0 ? 0 : UNREACHED;
            }
            Arrays.fill(judgeGains, UNREACHED);
            Arrays.fill(givers, NONE);
            Arrays.fill(gets, NONE);
            boolean changed = true;
            // Each round lengthens every chain by a step or more, and no chain comes to anyone twice.
            for (int round = 0; round < 2 * MOST && changed; round++) {
                changed = false;
                for (int paper = 0; paper < papers.count; paper++) {
                    for (int judge = 0; judge < judges.count; judge++) {
                        changed |= hasBit(sets[paper], judge) ? giveUp(judge, paper) : giveTo(judge, paper);
                    }
                }
            }
        }

        private boolean giveTo(int judge, int paper) {
            if (paperGains[paper] == UNREACHED || !allows(judge, paper)) {
                return false;
            }
            long gain = paperGains[paper] + weight(judge, paper);
            if (gain <= judgeGains[judge]) {
                return false;
            }
            judgeGains[judge] = gain;
            gets[judge] = paper;
            return true;
        }

        private boolean giveUp(int judge, int paper) {
            if (judgeGains[judge] == UNREACHED) {
                return false;
            }
            long gain = judgeGains[judge] - weight(judge, paper);
            if (gain <= paperGains[paper]) {
                return false;
            }
            paperGains[paper] = gain;
            givers[paper] = judge;
            return true;
        }

        private int bestEnd(int l) {
            int best = NONE;
            long most = UNREACHED;
            for (int judge = 0; judge < judges.count; judge++) {
                if (loads[judge] < l && judgeGains[judge] > most) {
                    best = judge;
                    most = judgeGains[judge];
                }
            }
            return best;
        }

        private void change(int last) {
            loads[last]++;
            int judge = last;
            for (int step = 0; step < MOST && judge != NONE; step++) {
                int paper = gets[judge];
                if (paper == NONE) {
                    return;
                }
                sets[paper] |= 1 << judge;
                judge = givers[paper];
                if (judge == NONE) {
                    wants[paper]--;
                } else {
                    sets[paper] &= ~(1 << judge);
                }
            }
        }
    }
}
