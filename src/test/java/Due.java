/** Counts answers that are not the ones due; every test class ends with {@link #end()}. */
final class Due {
    private static int wrong = 0;
    private static int asked = 0;

    private Due() {
    }

    static void is(String call, long got, long want) {
        asked++;
        if (got != want) {
            wrong++;
            System.out.println(call + " answered " + got + ", due is " + want);
        }
    }

    static void holds(String what, boolean true_) {
        is(what, true_ ? 1 : 0, 1);
    }

    static void fraction(String call, long upper, long lower, long wantUpper, long wantLower) {
        is(call + " upper", upper, wantUpper);
        is(call + " lower", lower, wantLower);
    }

    /** A refused fraction is refused alike for both parts. */
    static void lost(String call, long upper, long lower, int refusal) {
        fraction(call, upper, lower, PaperMarks.LOST + refusal, PaperMarks.LOST + refusal);
    }

    /** Says a text's signs where the answers do not matter. */
    static void say(PaperMarks x, String text) {
        for (int i = 0; i < text.length(); i++) {
            x.say(text.charAt(i));
        }
    }

    static void saySigns(PaperMarks x, String text) {
        for (int i = 0; i < text.length(); i++) {
            is("say " + text.charAt(i) + " of " + text, x.say(text.charAt(i)), x.told(2));
        }
    }

    static void makeRule(PaperMarks x, String text, int clauses) {
        x.wipe();
        saySigns(x, text);
        is("rule of " + text, x.rule(), clauses);
    }

    static void end() {
        System.out.println(asked + " answers asked, " + wrong + " not as due");
        if (wrong != 0) {
            System.exit(1);
        }
    }
}
