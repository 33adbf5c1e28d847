/** Promises 7 to 11: say, wipe, fault, rule, yes. */
public final class RulesTest {
    private static final int UNKNOWN = PaperMarks.UNKNOWN, OUTSIDE = PaperMarks.OUTSIDE, STATE = PaperMarks.STATE;
    private static final int FULL = PaperMarks.FULL, NO = PaperMarks.NO, NONE = PaperMarks.NONE;

    public static void main(String[] args) {
        say();
        wipe();
        faults();
        rules();
        longestRule();
        yesRefused();
        joins();
        meansAreCut();
        clauseOrder();
        Due.end();
    }

    private static void say() {
        PaperMarks x = new PaperMarks();
        for (int sign : new int[] {32, 127, 0, -1, 128, Integer.MAX_VALUE, Integer.MIN_VALUE}) {
            Due.is("say(" + sign + ")", x.say(sign), OUTSIDE);
        }
        Due.is("no signs yet", x.told(2), 0);
        for (int i = 1; i <= 40; i++) {
            Due.is("sign " + i, x.say(i % 2 == 0 ? 33 : 126), i);
        }
        Due.is("sign 41", x.say(97), FULL);
        Due.is("OUTSIDE before FULL", x.say(32), OUTSIDE);
        Due.is("40 signs", x.told(2), 40);
    }

    private static void wipe() {
        PaperMarks x = new PaperMarks();
        Due.makeRule(x, "a>3", 1);
        Due.is("rule takes the signs", x.wipe(), 0);
        Due.saySigns(x, "xyz");
        Due.is("three went", x.wipe(), 3);
        Due.is("none are left", x.told(2), 0);
        Due.is("none are left to wipe", x.wipe(), 0);
        Due.is("the rule stays", x.told(3), 1);
        Due.is("counting begins anew", x.say('a'), 1);
    }

    private static void faultOf(String text, int want) {
        PaperMarks x = new PaperMarks();
        Due.saySigns(x, text);
        Due.is("fault of " + text, x.fault(), want);
        Due.is("signs stay: " + text, x.told(2), text.length());
        if (want != NONE) {
            Due.is("rule of " + text, x.rule(), NO);
            Due.is("signs stay after NO: " + text, x.told(2), text.length());
            Due.is("no rule after NO: " + text, x.told(3), 0);
        }
    }

    private static void faults() {
        for (String join : new String[] {"a", "m", "l", "g"}) {
            faultOf(join, 1);
            faultOf(join + ">", 2);
            faultOf(join + ">0", NONE);
        }
        faultOf("", 0);
        for (String sign : new String[] {"A", "b", ">", "1", ";", "?", "!", "~"}) {
            faultOf(sign, 0);
            faultOf("a>1;" + sign, 4);
        }
        faultOf("aa", 1);
        faultOf("a=", 1);
        faultOf("a<1", 1);
        faultOf("a1", 1);
        faultOf("a>>", 2);
        faultOf("a>a", 2);
        faultOf("a>;", 2);
        faultOf("a>?", 2);
        faultOf("a>/", 2);
        faultOf("a>:", 2);
        faultOf("a>9", NONE);
        faultOf("a>00", NONE);
        faultOf("a>99", NONE);
        faultOf("a>1a", 3);
        faultOf("a>1>", 3);
        faultOf("a>12a", 4);
        faultOf("a>123", 4);
        faultOf("a>1?", 4);
        faultOf("a>12?", 5);
        faultOf("a>1?0", 4);
        faultOf("a>1?1", NONE);
        faultOf("a>1?3", NONE);
        faultOf("a>1?4", 4);
        faultOf("a>1??", 4);
        faultOf("a>12?2", NONE);
        faultOf("a>1?22", 5);
        faultOf("a>1?2?", 5);
        faultOf("a>1?2;", 6);
        faultOf("a>1;", 4);
        faultOf("a>1;;", 4);
        faultOf("a>1;g>2", NONE);
        faultOf("a>12?1;g>2?3;l>0;m>99", NONE);
        faultOf("a>1;g>2;x!!", 8);
        String ten = "a>1;a>1;a>1;a>1;a>1;a>1;a>1;a>1;a>1;a>1";
        faultOf(ten, NONE);
        faultOf(ten + ";", 40);
        faultOf(ten + "1", NONE);
        faultOf(ten + "?", 40);
    }

    private static void rules() {
        PaperMarks x = new PaperMarks();
        x.judge(0, 0);
        x.paper(0, NONE);
        x.mark(0, 0, 3);
        Due.is("no signs", x.rule(), NO);
        Due.makeRule(x, "a>29", 1);
        Due.is("signs are empty", x.told(2), 0);
        Due.is("then more must come", x.fault(), 0);
        Due.is("by that rule", x.yes(0), 4);
        Due.is("empty signs are no rule", x.rule(), NO);
        Due.saySigns(x, "a>30;");
        Due.is("a fault", x.rule(), NO);
        Due.is("the rule before stays", x.yes(0), 4);
        Due.is("its clauses too", x.told(3), 1);
        Due.saySigns(x, "l>9?3");
        Due.is("the text goes on behind NO", x.rule(), 2);
        Due.is("two clauses", x.told(3), 2);
        Due.is("by the new rule", x.yes(0), 3);
        Due.makeRule(x, "g>30", 1);
        Due.is("a shorter rule", x.told(3), 1);
        Due.is("by the shorter rule", x.yes(0), 0);
    }

    private static void longestRule() {
        PaperMarks x = new PaperMarks();
        x.judge(0, 0);
        x.paper(0, NONE);
        Due.makeRule(x, "g>9;g>9;g>9;g>9;g>9;g>9;g>9;g>9;g>9;g>50", 10);
        x.mark(0, 0, 0);
        Due.is("none of ten", x.yes(0), 0);
        Due.makeRule(x, "g>99;g>99;g>99;g>99;g>99;g>9?1;g>9;g>9?2", 8);
        x.mark(0, 0, 1);
        Due.is("the sixth of eight", x.yes(0), 1);
        Due.makeRule(x, "g>99;g>9?2", 2);
        Due.is("coins of longer rules are forgotten", x.yes(0), 2);
        Due.makeRule(x, "g>0", 1);
        Due.is("numbers of longer rules are forgotten", x.yes(0), 4);
    }

    private static void yesRefused() {
        PaperMarks x = new PaperMarks();
        Due.is("UNKNOWN before STATE", x.yes(0), UNKNOWN);
        x.paper(0, NONE);
        Due.is("no rule", x.yes(0), STATE);
        Due.makeRule(x, "l>0", 1);
        Due.is("no marks", x.yes(0), 0);
        Due.is("no paper", x.yes(1), UNKNOWN);
        Due.is("paper -1", x.yes(-1), UNKNOWN);
        Due.is("paper NONE", x.yes(NONE), UNKNOWN);
    }

    private static PaperMarks marked(int... marks) {
        PaperMarks x = new PaperMarks();
        x.paper(0, NONE);
        x.paper(5, NONE);
        for (int judge = 0; judge < marks.length; judge++) {
            x.judge(0, 0);
            x.mark(judge, 0, marks[judge]);
            x.mark(judge, 1, 5);
        }
        return x;
    }

    /** A join of some marks is the greatest number with which it is not yet more, 10 times it. */
    private static void joinIs(PaperMarks x, char join, int want) {
        Due.makeRule(x, join + ">" + want, 1);
        Due.is(join + ">" + want, x.yes(0), 0);
        if (want > 0) {
            Due.makeRule(x, join + ">" + (want - 1), 1);
            Due.is(join + ">" + (want - 1), x.yes(0), 4);
        }
    }

    private static void joins(int mean, int middle, int least, int greatest, int... marks) {
        PaperMarks x = marked(marks);
        joinIs(x, 'a', mean);
        joinIs(x, 'm', middle);
        joinIs(x, 'l', least);
        joinIs(x, 'g', greatest);
    }

    private static void joins() {
        joins(30, 30, 30, 30, 3);
        joins(0, 0, 0, 0, 0);
        joins(50, 50, 50, 50, 5, 5, 5, 5, 5, 5);
        joins(35, 20, 20, 50, 5, 2);
        joins(30, 40, 0, 50, 5, 0, 4);
        joins(25, 20, 10, 50, 5, 1, 2, 2);
        joins(25, 10, 0, 50, 5, 5, 1, 0, 0, 4);
        joins(26, 20, 0, 50, 2, 5, 0, 5, 1);
    }

    private static void meansAreCut() {
        joins(33, 30, 30, 40, 3, 3, 4);
        joins(36, 40, 30, 40, 4, 3, 4);
        joins(8, 10, 0, 10, 1, 1, 1, 1, 1, 0);
    }

    private static void clauseOrder() {
        PaperMarks x = marked(4, 2);
        Due.makeRule(x, "a>29?1;a>20", 2);
        Due.is("the first that is more decides, by its coin", x.yes(0), 1);
        Due.makeRule(x, "a>30;g>30?3", 2);
        Due.is("a later one", x.yes(0), 3);
        Due.makeRule(x, "a>30;l>20?3;g>40?2", 3);
        Due.is("none of three", x.yes(0), 0);
        Due.makeRule(x, "a>3;g>40", 2);
        Due.is("one digit is tenths", x.yes(0), 4);
        Due.makeRule(x, "l>20;g>09?2", 2);
        Due.is("a 0 ahead", x.yes(0), 2);
        x.mark(0, 0, -1);
        x.mark(1, 0, -1);
        Due.is("no marks any more", x.yes(0), 0);
    }
}
