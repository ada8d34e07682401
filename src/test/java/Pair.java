/**
 * Two texts as the fields 1 and 3 of a record. A "-" cannot be typed, so the rule 0 makes it: the separator is 7, and
 * "-7", cut at it, leaves a "-" alone in field 5. Each text may hold one "-" and no 7.
 */
final class Pair {
    private Pair() {
    }

    /** A language that has the rule 0; what is tested comes in rules behind it. */
    static FieldScribe maker(String first, String second) {
        FieldScribe scribe = new FieldScribe();
        scribe.setSeparator(7);
        scribe.rule(0, 0, 0);
        scribe.act(0, 0, 5, 2, 0, 7);
        putMinus(scribe, 1, first);
        putMinus(scribe, 3, second);
        return scribe;
    }

    /** Answers the set of the rules behind the rule 0: bit 0 for the rule 1. */
    static int enter(Check check, FieldScribe scribe, String first, String second) {
        int taken = Check.enter(scribe, typed(first) + "7" + typed(second));
        check.same("the first text", Check.field(scribe, 1), first);
        check.same("the second text", Check.field(scribe, 3), second);
        return taken >> 1;
    }

    /** The first text is before the second one, and the second one is not before the first. */
    static void before(Check check, String first, String second) {
        compare(check, first, second, 1);
        compare(check, second, first, 2);
    }

    /** Neither is before the other. */
    static void equal(Check check, String first, String second) {
        compare(check, first, second, 0);
        compare(check, second, first, 0);
    }

    private static void compare(Check check, String first, String second, int due) {
        FieldScribe scribe = maker(first, second);
        scribe.rule(2, 1, 3);
        scribe.rule(2, 3, 1);
        int taken = enter(check, scribe, first, second);
        check.same("\"" + first + "\" against \"" + second + "\" (1 less, 2 greater, 0 neither)", taken, due);
    }

    /** Whether the text is the same as the number, by comparing. */
    static void sameAs(Check check, String text, int number, boolean due) {
        FieldScribe scribe = maker(text, "");
        scribe.rule(1, 1, number);
        int taken = enter(check, scribe, text, "");
        check.same("\"" + text + "\" the same as " + number, taken, due ? 1 : 0);
    }

    static void number(Check check, String text, int due) {
        FieldScribe scribe = maker(text, "");
        enter(check, scribe, text, "");
        check.same("the number of \"" + text + "\"", scribe.number(1), due);
    }

    private static void putMinus(FieldScribe scribe, int field, String text) {
        if (text.indexOf('-') >= 0) {
            scribe.act(0, 0, field, 4, -1 - field, -6);
            scribe.act(0, 0, field, 4, -1 - field, -2 - field);
        }
    }

    /** What stands before the "-" and what stands behind it, in two fields. */
    private static String typed(String text) {
        int at = text.indexOf('-');
        return at < 0 ? text + "7" : text.substring(0, at) + "7" + text.substring(at + 1);
    }
}
