/** The boundary cases of promises 7 to 11: say, wipe, fault, rule, yes. */
public final class RulesEdgesTest {
    private static final int OUTSIDE = PaperMarks.OUTSIDE, STATE = PaperMarks.STATE;
    private static final int FULL = PaperMarks.FULL, NO = PaperMarks.NO, NONE = PaperMarks.NONE;
    private static final String JOINS = "amlg", DIGITS = "0123456789";

    public static void main(String[] args) {
        sayRefusals();
        everySignMayBeSaid();
        fortySignsAndNoMore();
        signsFitAgainBehindWipeAndRule();
        wipeOfNothingSomeAndAll();
        wipeLeavesTheRule();
        whatMayStandWhere();
        faultOfNoSigns();
        faultIsTheFirstOne();
        faultOfFortySigns();
        fewestAndMostClauses();
        ruleWithFaultChangesNothing();
        ruleTakesTheSigns();
        yesRefusals();
        yesWithoutMarks();
        numberBounds();
        strictlyMore();
        meanIsCut();
        lowerOfTwoMiddleOnes();
        coinBounds();
        firstClauseDecides();
        askingChangesNothing();
        Due.end();
    }

    // ---- promise 7

    private static void sayRefusals() {
        for (State state : State.ALL) {
            Refusals.of(state, "say", n -> state == State.FULL ? FULL : 0, Refusals.within(33, 126));
        }
    }

    private static void everySignMayBeSaid() {
        PaperMarks x = new PaperMarks();
        for (int sign = 0; sign <= 130; sign++) {
            boolean fine = sign >= 33 && sign <= 126;
            Due.is("say(" + sign + ")", x.say(sign), fine ? 1 : OUTSIDE);
            Due.is("wipe behind " + sign, x.wipe(), fine ? 1 : 0);
        }
        // Numbers that a cut to 8 or 16 bits would take for an a.
        for (int sign : new int[] {97 + 256, 97 + 65536, 97 - 256, 97 - 65536}) {
            Due.is("say(" + sign + ")", x.say(sign), OUTSIDE);
        }
    }

    private static void fortySignsAndNoMore() {
        PaperMarks x = new PaperMarks();
        for (int i = 0; i < 40; i++) {
            Due.is("sign " + i, x.say(State.FORTY.charAt(i)), i + 1);
            Due.is("so many", x.told(2), i + 1);
        }
        Due.is("one more", x.say(';'), FULL);
        Due.is("and one more", x.say(126), FULL);
        Due.is("OUTSIDE first", x.say(127), OUTSIDE);
        Due.is("OUTSIDE first", x.say(32), OUTSIDE);
        Due.is("still 40", x.told(2), 40);
        Due.is("what was refused is not in the text", x.fault(), NONE);
        Due.is("its clauses", x.rule(), 7);
    }

    private static void signsFitAgainBehindWipeAndRule() {
        PaperMarks x = new PaperMarks();
        for (int turn = 0; turn < 2; turn++) {
            Due.saySigns(x, State.FORTY);
            Due.is("full", x.say('a'), FULL);
            Due.is("away", turn == 0 ? x.wipe() : x.rule(), turn == 0 ? 40 : 7);
            Due.is("from 1 on", x.say('a'), 1);
            x.wipe();
        }
        Due.saySigns(x, State.FORTY);
        Due.is("40 again", x.told(2), 40);
    }

    // ---- promise 8

    private static void wipeOfNothingSomeAndAll() {
        PaperMarks x = new PaperMarks();
        Due.is("none", x.wipe(), 0);
        Due.is("none again", x.wipe(), 0);
        x.say('!');
        Due.is("one", x.wipe(), 1);
        Due.is("none are left", x.told(2), 0);
        Due.saySigns(x, State.FORTY);
        Due.is("all 40", x.wipe(), 40);
        Due.is("none are left of 40", x.wipe(), 0);
        Due.is("then more must come", x.fault(), 0);
    }

    private static void wipeLeavesTheRule() {
        PaperMarks x = new PaperMarks();
        x.judge(0, 0);
        x.paper(0, NONE);
        x.mark(0, 0, 5);
        Due.makeRule(x, "l>49?3", 1);
        Due.saySigns(x, "g>");
        Due.is("two go", x.wipe(), 2);
        Due.is("the rule's clause", x.told(3), 1);
        Due.is("the rule", x.yes(0), 3);
        Due.is("signs begin anew", x.say('m'), 1);
        Due.is("nothing of the old ones", x.fault(), 1);
    }

    // ---- promise 9

    private static int faultOf(String text) {
        PaperMarks x = new PaperMarks();
        Due.say(x, text);
        int fault = x.fault();
        Due.is("rule of " + text + " with fault " + fault, x.rule() == NO ? 1 : 0, fault == NONE ? 0 : 1);
        return fault;
    }

    /** Behind a text these signs may stand and no others; some of them may be the last. */
    private static void mayStand(String behind, String fine, String last) {
        for (char sign = 33; sign <= 126; sign++) {
            int due = behind.length();
            if (fine.indexOf(sign) >= 0) {
                due = last.indexOf(sign) >= 0 ? NONE : behind.length() + 1;
            }
            Due.is("fault of " + behind + sign, faultOf(behind + sign), due);
        }
    }

    private static void whatMayStandWhere() {
        mayStand("", JOINS, "");
        for (int join = 0; join < 4; join++) {
            mayStand("" + JOINS.charAt(join), ">", "");
            mayStand(JOINS.charAt(join) + ">", DIGITS, DIGITS);
        }
        for (int digit = 0; digit <= 9; digit++) {
            mayStand("a>" + digit, DIGITS + "?;", DIGITS);
            mayStand("g>9" + digit, "?;", "");
        }
        mayStand("a>0?", "123", "123");
        mayStand("l>07?", "123", "123");
        mayStand("a>0?1", ";", "");
        mayStand("a>99?3", ";", "");
        mayStand("a>0;", JOINS, "");
        mayStand("a>99?3;", JOINS, "");
        mayStand("a>0;m", ">", "");
        mayStand("a>0;m>", DIGITS, DIGITS);
        mayStand("a>0;m>1", DIGITS + "?;", DIGITS);
        mayStand("a>0;m>12", "?;", "");
    }

    private static void faultOfNoSigns() {
        Due.is("the number of signs is 0", faultOf(""), 0);
    }

    private static void faultIsTheFirstOne() {
        Due.is("at 0, and at 1", faultOf("!!"), 0);
        Due.is("at 1, and more must come", faultOf("ax"), 1);
        Due.is("at 4, and behind it", faultOf("a>12345;;"), 4);
        Due.is("in the second clause", faultOf("a>1;m<2;g>?"), 5);
        Due.is("what follows a fault is not looked at", faultOf("a>1;;a>1"), 4);
        PaperMarks x = new PaperMarks();
        Due.saySigns(x, "a!");
        Due.saySigns(x, ">30");
        Due.is("later signs do not mend it", x.fault(), 1);
        Due.is("asked once more", x.fault(), 1);
    }

    private static void faultOfFortySigns() {
        String most = "a>1;a>1;a>1;a>1;a>1;a>1;a>1;a>1;a>1;a>1";
        Due.is("39 signs", faultOf(most), NONE);
        Due.is("40 signs", faultOf(most + "0"), NONE);
        Due.is("the 40th is a ;", faultOf(most + ";"), 40);
        Due.is("the 40th is a ?", faultOf(most + "?"), 40);
        Due.is("the 40th can not stand there", faultOf(most + "a"), 39);
        String eight = "a>12;a>12;a>12;a>12;a>12;a>12;a>12;a>12";
        Due.is("eight of two digits", faultOf(eight), NONE);
        Due.is("the 40th is a third digit", faultOf(eight + "3"), 39);
        Due.is("the full state's", faultOf(State.FORTY), NONE);
    }

    // ---- promise 10

    private static void fewestAndMostClauses() {
        PaperMarks x = new PaperMarks();
        Due.makeRule(x, "l>0", 1);
        Due.is("told", x.told(3), 1);
        StringBuilder text = new StringBuilder("g>0");
        for (int clauses = 2; clauses <= 10; clauses++) {
            PaperMarks fresh = new PaperMarks();
            text.append(";g>").append(clauses % 10);
            Due.makeRule(fresh, text.toString(), clauses);
            Due.is("told of " + clauses, fresh.told(3), clauses);
        }
        Due.makeRule(x, text + "9", 10);
        Due.is("told of the most", x.told(3), 10);
        Due.makeRule(x, "g>1", 1);
        Due.is("one again", x.told(3), 1);
    }

    private static void ruleWithFaultChangesNothing() {
        for (String fault : new String[] {"", "!", "a", "a>", "a>1;", "a>1?", "a>1?4", "a>123", "a>1;b"}) {
            State faulty = new State("fault " + fault, () -> withSigns(fault), 3, 2, true);
            Look.unchanged("rule of a fault", faulty, x -> Due.is("rule of " + fault, x.rule(), NO));
        }
        PaperMarks x = new PaperMarks();
        Due.is("no signs at all", x.rule(), NO);
        Due.saySigns(x, "g>4");
        x.say(';');
        Due.is("more must come", x.rule(), NO);
        Due.saySigns(x, "l>1");
        Due.is("the signs stood, the text goes on", x.rule(), 2);
    }

    private static PaperMarks withSigns(String text) {
        PaperMarks x = State.SOME.made().get();
        x.wipe();
        Due.say(x, text);
        return x;
    }

    private static void ruleTakesTheSigns() {
        PaperMarks x = new PaperMarks();
        Due.makeRule(x, "l>0", 1);
        Due.is("none are left", x.told(2), 0);
        Due.is("the first must come", x.fault(), 0);
        Due.is("no rule of none", x.rule(), NO);
        Due.is("the rule stays", x.told(3), 1);
        Due.is("signs from 1 on", x.say('g'), 1);
    }

    // ---- promise 11

    private static void yesRefusals() {
        for (State state : State.ALL) {
            Refusals.of(state, "yes", n -> state.ruled() ? 0 : STATE, Refusals.oneOf(state.papers()));
        }
    }

    private static PaperMarks marked(int... marks) {
        PaperMarks x = new PaperMarks();
        x.paper(0, NONE);
        for (int judge = 0; judge < marks.length; judge++) {
            x.judge(0, 0);
            x.mark(judge, 0, marks[judge]);
        }
        return x;
    }

    private static void yesIs(String what, PaperMarks x, String rule, int quarters) {
        Due.makeRule(x, rule, rule.split(";").length);
        Due.is(what + ", " + rule, x.yes(0), quarters);
    }

    private static void yesWithoutMarks() {
        PaperMarks x = marked();
        for (String rule : new String[] {"a>0", "m>0", "l>0", "g>0", "a>00?1", "a>0;m>0;l>0;g>0"}) {
            yesIs("no judges", x, rule, 0);
        }
        PaperMarks y = marked(5);
        y.mark(0, 0, -1);
        yesIs("the mark went", y, "a>0", 0);
        PaperMarks z = marked(0, 0, 0, 0, 0, 0);
        yesIs("0 is a mark, but not more than 0", z, "a>0;m>0;l>0;g>0", 0);
    }

    private static void numberBounds() {
        PaperMarks x = marked(5, 5, 5, 5, 5, 5);
        for (int join = 0; join < 4; join++) {
            char sign = JOINS.charAt(join);
            yesIs("all 5", x, sign + ">0", 4);
            yesIs("all 5", x, sign + ">00", 4);
            yesIs("all 5", x, sign + ">49", 4);
            yesIs("all 5", x, sign + ">50", 0);
            yesIs("all 5", x, sign + ">99", 0);
        }
    }

    private static void strictlyMore() {
        for (int mark = 0; mark <= 5; mark++) {
            PaperMarks x = marked(mark);
            for (int join = 0; join < 4; join++) {
                char sign = JOINS.charAt(join);
                yesIs("as much is not more, mark " + mark, x, sign + ">" + 10 * mark, 0);
                if (mark > 0) {
                    yesIs("one tenth less, mark " + mark, x, sign + ">" + (10 * mark - 1), 4);
                }
            }
        }
        PaperMarks y = marked(1);
        yesIs("one digit is tenths", y, "l>9", 4);
        yesIs("two digits are tenths", y, "l>10", 0);
        yesIs("a 0 ahead", y, "l>09", 4);
    }

    private static void meanIsCut() {
        PaperMarks sixth = marked(1, 0, 0, 0, 0, 0);
        yesIs("10 sixths are 1", sixth, "a>0", 4);
        yesIs("10 sixths are 1", sixth, "a>1", 0);
        PaperMarks most = marked(5, 5, 5, 5, 5, 4);
        yesIs("290 sixths are 48", most, "a>47", 4);
        yesIs("290 sixths are 48", most, "a>48", 0);
        PaperMarks thirds = marked(4, 4, 3);
        yesIs("110 thirds are 36", thirds, "a>35", 4);
        yesIs("110 thirds are 36", thirds, "a>36", 0);
        PaperMarks half = marked(2, 3);
        yesIs("25 is whole", half, "a>24", 4);
        yesIs("25 is whole", half, "a>25", 0);
    }

    private static void lowerOfTwoMiddleOnes() {
        PaperMarks two = marked(5, 0);
        yesIs("of two", two, "m>0", 0);
        PaperMarks four = marked(5, 1, 4, 0);
        yesIs("of four", four, "m>9", 4);
        yesIs("of four", four, "m>10", 0);
        PaperMarks six = marked(0, 5, 0, 5, 2, 3);
        yesIs("of six", six, "m>19", 4);
        yesIs("of six", six, "m>20", 0);
        PaperMarks three = marked(5, 0, 3);
        yesIs("of three", three, "m>29", 4);
        yesIs("of three", three, "m>30", 0);
        PaperMarks five = marked(5, 0, 5, 4, 0);
        yesIs("of five", five, "m>39", 4);
        yesIs("of five", five, "m>40", 0);
    }

    private static void coinBounds() {
        PaperMarks x = marked(3);
        yesIs("no coin", x, "l>0", 4);
        yesIs("the least coin", x, "l>0?1", 1);
        yesIs("the middle coin", x, "l>0?2", 2);
        yesIs("the greatest coin", x, "l>0?3", 3);
        yesIs("a coin of a clause that does not decide", x, "l>30?3", 0);
    }

    private static void firstClauseDecides() {
        PaperMarks x = marked(3, 4);
        yesIs("the first of two that are", x, "l>20?1;g>20?2", 1);
        yesIs("the last of eight", x, "g>40;g>40;g>40;g>40;g>40;g>40;g>40;a>34", 4);
        yesIs("the last of ten", marked(0, 5), "l>9;l>9;l>9;l>9;l>9;l>9;l>9;l>9;l>9;g>49", 4);
        yesIs("none of ten", marked(0, 4), "l>9;l>9;l>9;l>9;l>9;l>9;l>9;l>9;l>9;g>49", 0);
        yesIs("the first of ten", x, "g>9;g>9;g>9;g>9;g>9;g>9;g>9;g>9;g>9;g>9", 4);
        yesIs("the second of two", x, "l>99;g>9?2", 2);
    }

    private static void askingChangesNothing() {
        for (State state : State.ALL) {
            Look.unchanged("fault and yes", state, x -> {
                x.fault();
                x.fault();
                x.yes(0);
            });
        }
    }
}
