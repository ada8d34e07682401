/** The terms "Rules", "Patterns" and "When a record is ended". */
public final class TermRulesTest {
    public static void main(String[] args) {
        Suite.run(TermRulesTest.class);
    }

    private static FieldScribe withRule(int pattern, int a, int b) {
        FieldScribe scribe = new FieldScribe();
        scribe.rule(pattern, a, b);
        return scribe;
    }

    /** What end() answers for each of the records, one behind the other. */
    private static void taken(Check check, FieldScribe scribe, int[] due, String... records) {
        for (int record = 0; record < records.length; record++) {
            int got = Check.enter(scribe, records[record]);
            check.same("record " + (record + 1) + ", \"" + records[record] + "\"", got, due[record]);
        }
    }

    @Says("Rules are numbered from 0, at most 8")
    static void rulesFromZeroToSeven(Check check) {
        FieldScribe scribe = new FieldScribe();
        for (int rule = 0; rule < 8; rule++) {
            check.same("the number", scribe.rule(0, 0, 0), rule);
        }
        check.refused("a ninth", Check.STATE, () -> scribe.rule(0, 0, 0));
        check.same("eight are gone through", scribe.end(), 255);
    }

    @Says("a rule has a pattern and up to 6 actions")
    static void rulesOfNoAction(Check check) {
        FieldScribe scribe = withRule(0, 0, 0);
        check.same("its pattern is true still", Check.enter(scribe, "a"), 1);
        check.same("nothing is done", Check.state(scribe), "1|a|a|||||||||||///0");
    }

    @Says("a rule has a pattern and up to 6 actions")
    static void rulesOfSixActions(Check check) {
        FieldScribe scribe = new FieldScribe();
        for (int rule = 0; rule < 8; rule++) {
            scribe.rule(0, 0, 0);
            for (int action = 1; action <= 6; action++) {
                int number = 10 * rule + action;
                check.same("action " + number, scribe.act(rule, 2, 0, 0, number, 0), action);
            }
        }
        check.refused("a seventh of the first", Check.STATE, () -> scribe.act(0, 2, 0, 0, 7, 0));
        check.refused("a seventh of the last", Check.STATE, () -> scribe.act(7, 2, 0, 0, 77, 0));
        scribe.end();
        check.same("the last forty of forty-eight lines", scribe.lines(), 40);
        check.same("the third of rule 1", Check.line(scribe, 0), "13");
        check.same("the sixth of rule 7", Check.line(scribe, 39), "76");
    }

    @Says("0 each record")
    static void patternEachRecord(Check check) {
        taken(check, withRule(0, 0, 0), new int[] {1, 1, 1, 1}, "", "a", " ", "");
        taken(check, withRule(0, -1, 99999), new int[] {1, 1}, "", "a");
    }

    @Says("1 the field a is the same as the number b, by comparing")
    static void patternSameByNumbers(Check check) {
        taken(check, withRule(1, 1, 7), new int[] {1, 1, 1, 0, 0}, "7", "007", "000000007", "8", "6");
        taken(check, withRule(1, 1, 9999), new int[] {1, 0, 1}, "9999", "9998", "09999");
        taken(check, withRule(1, 1, 0), new int[] {1, 1, 0}, "0", "00", "1");
    }

    @Says("1 the field a is the same as the number b, by comparing")
    static void patternSameByCharacters(Check check) {
        taken(check, withRule(1, 1, 7), new int[] {0, 0, 0, 0}, "7x", "0000000007", "7,", "x7");
        taken(check, withRule(1, 1, 0), new int[] {0, 0, 0}, "", "x", " 0");
    }

    @Says("1 the field a is the same as the number b, by comparing")
    static void patternSameOfTheFieldsAtTheEdges(Check check) {
        taken(check, withRule(1, 0, 7), new int[] {1, 0, 0}, "7", "7 8", "8 7");
        taken(check, withRule(1, 12, 7), new int[] {1, 0, 0}, "           7", "7", "           7 7");
        taken(check, withRule(1, 2, 7), new int[] {1, 0, 0}, "8 7", "7 8", "7");
    }

    @Says("2 the field a is less than the field b")
    static void patternLess(Check check) {
        taken(check, withRule(2, 1, 2), new int[] {1, 0, 0, 0, 1, 0}, "9 10", "10 9", "9 9", "9 09", "a b", "b a");
        taken(check, withRule(2, 2, 1), new int[] {0, 1, 0, 1}, "9 10", "10 9", "9 9", "a");
    }

    @Says("2 the field a is less than the field b")
    static void patternLessThanItselfIsNever(Check check) {
        taken(check, withRule(2, 1, 1), new int[] {0, 0, 0}, "", "5", "a b");
        taken(check, withRule(2, 0, 0), new int[] {0, 0, 0}, "", "5", "a b");
    }

    @Says("2 the field a is less than the field b")
    static void patternLessOfTheFieldsAtTheEdges(Check check) {
        taken(check, withRule(2, 1, 0), new int[] {1, 0, 0}, "a b", "a", "");
        taken(check, withRule(2, 0, 12), new int[] {1, 0}, "1 2 3 4 5 6 7 8 9 a b c", "1");
        taken(check, withRule(2, 12, 0), new int[] {0, 1}, "1 2 3 4 5 6 7 8 9 a b c", "1");
    }

    @Says("3 a range: from a record whose field 1 is the same as the number a")
    static void rangeBeginningIsIncluded(Check check) {
        taken(check, withRule(3, 1, 2), new int[] {0, 1, 1}, "3", "1", "3");
    }

    @Says("up to one whose field 1 is the same as the number b, both included")
    static void rangeEndIsIncluded(Check check) {
        taken(check, withRule(3, 1, 2), new int[] {1, 1, 1, 0}, "1", "3", "2", "3");
    }

    @Says("up to one whose field 1 is the same as the number b, both included")
    static void rangeEndRightBehindItsBeginning(Check check) {
        taken(check, withRule(3, 1, 2), new int[] {1, 1, 0}, "1", "2", "2");
    }

    @Says("that may be the same record")
    static void rangeOfOneRecord(Check check) {
        taken(check, withRule(3, 5, 5), new int[] {0, 1, 0, 1, 1, 0}, "4", "5", "4", "5", "05", "6");
    }

    @Says("then it can begin anew with a later one")
    static void rangeBeginsAnew(Check check) {
        int[] due = {1, 1, 1, 1, 0, 1, 1, 1, 0};
        taken(check, withRule(3, 1, 2), due, "1", "2", "1", "2", "3", "1", "3", "2", "3");
    }

    @Says("3 a range: from a record whose field 1 is the same as the number a")
    static void rangeEndWithoutABeginning(Check check) {
        taken(check, withRule(3, 1, 2), new int[] {0, 0, 1, 1}, "2", "3", "1", "3");
    }

    @Says("up to one whose field 1 is the same as the number b")
    static void rangeGoesOnWithoutAnEnd(Check check) {
        taken(check, withRule(3, 1, 2), new int[] {1, 1, 1, 1, 1, 1}, "1", "", "x", "1", "2x", "12");
    }

    @Says("whose field 1 is the same as the number a")
    static void rangeComparesTheFieldOneAsANumber(Check check) {
        taken(check, withRule(3, 1, 2), new int[] {0, 0, 1, 1, 1, 0}, "x 1", "1x", "01 x", "x 2", "002 x", "x");
        taken(check, withRule(3, 0, 9999), new int[] {0, 1, 1, 0}, "", "0", "9999", "1");
        taken(check, withRule(3, 9999, 0), new int[] {1, 1, 1, 0}, "9999", "", "0", "1");
    }

    @Says("a rule has a pattern")
    static void rangesOfSeveralRulesAreTheirOwn(Check check) {
        FieldScribe scribe = withRule(3, 1, 3);
        scribe.rule(3, 2, 4);
        taken(check, scribe, new int[] {1, 3, 3, 2, 0}, "1", "2", "3", "4", "5");
    }

    @Says("Adds a rule.")
    static void rangeOfARuleThatIsAddedLater(Check check) {
        FieldScribe scribe = withRule(3, 1, 2);
        Check.enter(scribe, "1");
        scribe.rule(3, 1, 2);
        taken(check, scribe, new int[] {1, 3, 3, 0}, "5", "1", "2", "2");
    }

    @Says("When a record is ended, its number becomes 1 more")
    static void recordsNumberOfEveryRecord(Check check) {
        FieldScribe scribe = new FieldScribe();
        scribe.end();
        Check.enter(scribe, "a");
        scribe.rule(0, 0, 0);
        scribe.act(0, 2, 0, 0, -21, 0);
        scribe.end();
        scribe.setField(0, 9);
        scribe.setSeparator(3);
        scribe.end();
        check.same("the third and the fourth", Check.lines(scribe), "3;4;");
    }

    @Says("the rules are gone through by rising numbers")
    static void recordsRulesRise(Check check) {
        FieldScribe scribe = new FieldScribe();
        for (int rule = 0; rule < 8; rule++) {
            scribe.rule(0, 0, 0);
        }
        for (int rule = 7; rule >= 0; rule--) {
            scribe.act(rule, 2, 0, 0, rule, 0);
        }
        scribe.end();
        check.same("lines", Check.lines(scribe), "0;1;2;3;4;5;6;7;");
    }

    @Says("if the pattern is true of the record as it is then")
    static void recordsPatternsSeeWhatEarlierRulesSet(Check check) {
        FieldScribe scribe = new FieldScribe();
        scribe.rule(1, 1, 6);
        scribe.rule(1, 1, 5);
        scribe.act(1, 0, 1, 0, 6, 0);
        scribe.rule(1, 1, 6);
        scribe.rule(1, 1, 5);
        scribe.rule(3, 6, 8);
        scribe.rule(2, 2, 1);
        check.same("5 becomes 6", Check.enter(scribe, "5 5"), 2 | 4 | 16 | 32);
        check.same("7 stays", Check.enter(scribe, "7 7"), 16);
    }

    @Says("if the pattern is true of the record as it is then")
    static void recordsPatternIsLookedAtBeforeItsActions(Check check) {
        FieldScribe scribe = new FieldScribe();
        scribe.rule(3, 1, 2);
        scribe.act(0, 0, 1, 0, 2, 0);
        check.same("1 becomes 2 behind the pattern", Check.enter(scribe, "1"), 1);
        check.same("the record", Check.field(scribe, 0), "2");
        check.same("so the range goes on", Check.enter(scribe, "5"), 1);
    }

    @Says("if the pattern is true of the record as it is then")
    static void recordsPatternsSeeTheRecordCutAnew(Check check) {
        FieldScribe scribe = new FieldScribe();
        scribe.rule(1, 5, 8);
        scribe.rule(0, 0, 0);
        scribe.act(1, 0, 1, 0, -1, 0);
        scribe.rule(1, 5, 8);
        check.same("\"a 7 8\" becomes \"a 7 8 7 8\"", Check.enter(scribe, "a 7 8"), 2 | 4);
    }

    @Says("its actions are done in order")
    static void recordsActionsAreDoneInOrder(Check check) {
        FieldScribe scribe = Check.withAction(2, 0, 0, -1, 0);
        scribe.act(0, 0, 2, 0, 5, 0);
        scribe.act(0, 2, 0, 0, -1, 0);
        scribe.act(0, 0, 2, 1, -3, 1);
        scribe.act(0, 2, 0, 0, -1, 0);
        Check.enter(scribe, "a");
        check.same("lines between the settings", Check.lines(scribe), "a;a 5;a 6;");
    }

    @Says("if the pattern is true of the record as it is then, its actions are done in order")
    static void recordsActionsOfAFalsePatternAreNotDone(Check check) {
        FieldScribe scribe = withRule(1, 1, 1);
        scribe.act(0, 2, 0, 0, -1, 0);
        scribe.act(0, 4, 0, 0, 0, 0);
        scribe.rule(0, 0, 0);
        taken(check, scribe, new int[] {2, 1, 2}, "2", "1", "3");
        check.same("one line", Check.lines(scribe), "1;");
    }

    @Says("A rule that is not come to, behind an action 4, neither begins nor ends its range.")
    static void rangeDoesNotBeginBehindAnActionFour(Check check) {
        FieldScribe scribe = withRule(1, 2, 9);
        scribe.act(0, 4, 0, 0, 0, 0);
        scribe.rule(3, 1, 2);
        taken(check, scribe, new int[] {1, 0, 2, 2}, "1 9", "5", "1", "5");
    }

    @Says("A rule that is not come to, behind an action 4, neither begins nor ends its range.")
    static void rangeDoesNotEndBehindAnActionFour(Check check) {
        FieldScribe scribe = withRule(1, 2, 9);
        scribe.act(0, 4, 0, 0, 0, 0);
        scribe.rule(3, 1, 2);
        taken(check, scribe, new int[] {2, 1, 2, 2, 0}, "1", "2 9", "5", "2", "5");
    }

    @Says("A rule that is not come to, behind an action 4, neither begins nor ends its range.")
    static void rangeOfARuleBeforeTheActionFourBeginsAndEnds(Check check) {
        FieldScribe scribe = withRule(3, 1, 2);
        scribe.rule(0, 0, 0);
        scribe.act(1, 4, 0, 0, 0, 0);
        scribe.rule(3, 1, 2);
        taken(check, scribe, new int[] {3, 3, 3, 2}, "1", "5", "2", "5");
        FieldScribe own = withRule(3, 1, 2);
        own.act(0, 4, 0, 0, 0, 0);
        taken(check, own, new int[] {1, 1, 1, 0}, "1", "5", "2", "5");
    }
}
