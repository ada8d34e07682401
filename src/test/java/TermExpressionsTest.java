/** The terms "Operands" and "An expression": by the tree walker and by the stack machine. */
public final class TermExpressionsTest {
    public static void main(String[] args) {
        Suite.run(TermExpressionsTest.class);
    }

    /** The value of a record's expression by the stack and by the tree, printed, and the faults behind it. */
    private static void value(Check check, String record, int operation, int x, int y, String due, int faults) {
        for (int stack = 0; stack < 2; stack++) {
            FieldScribe scribe = Check.withAction(2, 0, operation, x, y);
            scribe.useStack(stack == 1);
            Check.enter(scribe, record);
            String call = "operation " + operation + " of " + x + " and " + y + " in \"" + record + "\"";
            check.same(call + (stack == 1 ? " by the stack" : " by the tree"), Check.lines(scribe), due + ";");
            check.same(call + ": faults", scribe.faults(), faults);
        }
    }

    /** The same of the fields 1 and 2, when the field 1 has become 0 less what was typed. */
    private static void below(Check check, String record, int operation, String due, int faults) {
        for (int stack = 0; stack < 2; stack++) {
            FieldScribe scribe = Check.withAction(0, 1, 2, 0, -2);
            scribe.act(0, 2, 0, operation, -2, -3);
            scribe.useStack(stack == 1);
            Check.enter(scribe, record);
            check.same("operation " + operation + " of -" + record, Check.lines(scribe), due + ";");
            check.same("faults", scribe.faults(), faults);
        }
    }

    @Says("0 to 9999 that number")
    static void operandsOfNumbersAtTheirEdges(Check check) {
        value(check, "5", 0, 0, 7, "0", 0);
        value(check, "5", 0, 1, 7, "1", 0);
        value(check, "5", 0, 9999, 7, "9999", 0);
        value(check, "5", 4, 9999, 0, "99990", 0);
    }

    @Says("-1 to -13 the field 0 to 12, so that -1 is the field 0")
    static void operandsOfFieldsAtTheirEdges(Check check) {
        String record = "1x 2 3 4 5 6 7 8 9 a b c d";
        value(check, record, 0, -1, 0, record, 0);
        value(check, record, 0, -2, 0, "1x", 0);
        value(check, record, 0, -12, 0, "b", 0);
        value(check, record, 0, -13, 0, "c d", 0);
        value(check, record, 4, -13, -2, "c d1x", 0);
        value(check, "e f", 4, -3, -1, "fe f", 0);
    }

    @Says("-20 the number of fields")
    static void operandsOfTheNumberOfFields(Check check) {
        value(check, "", 0, -20, 0, "0", 0);
        value(check, "a", 0, -20, 0, "1", 0);
        value(check, "1 2 3 4 5 6 7 8 9 a b c", 0, -20, 0, "12", 0);
        value(check, "1 2 3 4 5 6 7 8 9 a b c d", 1, 1, -20, "13", 0);
    }

    @Says("-20 the number of fields")
    static void operandsOfTheNumberOfFieldsAsItIsThen(Check check) {
        FieldScribe scribe = Check.withAction(0, 4, 0, -20, 0);
        scribe.act(0, 2, 0, 0, -20, 0);
        Check.enter(scribe, "a b");
        check.same("before and behind the setting", Check.field(scribe, 4) + Check.line(scribe, 0), "24");
    }

    @Says("-21 the number of the record, from 1")
    static void operandsOfTheRecordsNumber(Check check) {
        FieldScribe scribe = Check.withAction(2, 0, 4, -21, -1);
        scribe.setField(1, 5);
        scribe.end();
        Check.enter(scribe, "a");
        scribe.setField(1, 5);
        for (int record = 3; record <= 11; record++) {
            scribe.end();
        }
        check.same("eleven records", Check.lines(scribe), "1;2a;3;4;5;6;7;8;9;10;11;");
    }

    @Says("0 the first one alone")
    static void expressionOfTheFirstAlone(Check check) {
        value(check, "007 5", 0, -2, -3, "007", 0);
        value(check, "a 5", 0, -2, -3, "a", 0);
        value(check, "999999999 999999999", 0, -2, -3, "999999999", 0);
        value(check, "", 0, -2, -3, "", 0);
    }

    @Says("1 the sum of the numbers of both")
    static void expressionSum(Check check) {
        value(check, "7 5", 1, -2, -3, "12", 0);
        value(check, "007x 5y", 1, -2, -3, "12", 0);
        value(check, "", 1, -2, -3, "0", 0);
        value(check, "a b", 1, -2, -3, "0", 0);
        below(check, "7 5", 1, "-2", 0);
    }

    @Says("2 the first less the second")
    static void expressionDifference(Check check) {
        value(check, "7 5", 2, -2, -3, "2", 0);
        value(check, "5 7", 2, -2, -3, "-2", 0);
        value(check, "5 5x", 2, -2, -3, "0", 0);
        below(check, "7 5", 2, "-12", 0);
    }

    @Says("3 the product")
    static void expressionProduct(Check check) {
        value(check, "7 5", 3, -2, -3, "35", 0);
        value(check, "7 x", 3, -2, -3, "0", 0);
        below(check, "7 5", 3, "-35", 0);
        below(check, "7 0", 3, "0", 0);
    }

    @Says("4 the text of the first and that of the second one behind it")
    static void expressionOfBothTexts(Check check) {
        value(check, "007 5", 4, -2, -3, "0075", 0);
        value(check, "a", 4, -2, -3, "a", 0);
        value(check, "a", 4, -3, -2, "a", 0);
        value(check, "", 4, -2, -3, "", 0);
        value(check, "999999999 999999999", 4, -2, -3, "999999999999999999", 0);
        below(check, "7 5", 4, "-75", 0);
    }

    @Says("A sum, difference or product that does not fit into an int is 0, and counts as a fault.")
    static void expressionGreatestProductsThatFit(Check check) {
        value(check, "715827882 3", 3, -2, -3, "2147483646", 0);
        value(check, "46340 46340", 3, -2, -3, "2147395600", 0);
        below(check, "536870912 4", 3, "-2147483648", 0);
        below(check, "65536 32768", 3, "-2147483648", 0);
    }

    @Says("A sum, difference or product that does not fit into an int is 0, and counts as a fault.")
    static void expressionProductsThatDoNotFit(Check check) {
        value(check, "536870912 4", 3, -2, -3, "0", 1);
        value(check, "65536 32768", 3, -2, -3, "0", 1);
        value(check, "46341 46341", 3, -2, -3, "0", 1);
        below(check, "715827883 3", 3, "0", 1);
    }

    @Says("A sum, difference or product that does not fit into an int is 0, and counts as a fault.")
    static void expressionProductsThatWouldWrapAround(Check check) {
        value(check, "65536 65536", 3, -2, -3, "0", 1);
        value(check, "858993460 5", 3, -2, -3, "0", 1);
        value(check, "999999999 999999999", 3, -2, -3, "0", 1);
        below(check, "65536 65536", 3, "0", 1);
        below(check, "999999999 999999999", 3, "0", 1);
    }

    @Says("A sum, difference or product that does not fit into an int is 0, and counts as a fault.")
    static void expressionGreatestSumsAndDifferencesFit(Check check) {
        value(check, "999999999 999999999", 1, -2, -3, "1999999998", 0);
        below(check, "999999999 999999999", 2, "-1999999998", 0);
    }

    @Says("A sum, difference or product that does not fit into an int is 0, and counts as a fault.")
    static void expressionOfTenDigitsTakesTheFirstNine(Check check) {
        FieldScribe scribe = Check.withAction(0, 1, 1, -2, -2);
        scribe.act(0, 2, 0, 1, -2, -2);
        scribe.act(0, 2, 0, 3, -2, 10);
        Check.enter(scribe, "999999999");
        check.same("of 1999999998", Check.lines(scribe), "399999998;1999999990;");
        check.same("no fault", scribe.faults(), 0);
    }

    @Says("and counts as a fault")
    static void expressionFaultInAnyAction(Check check) {
        FieldScribe scribe = Check.withAction(2, 0, 3, -2, -2);
        scribe.act(0, 1, 1, 3, -2, -2);
        scribe.act(0, 0, 2, 3, -2, -2);
        Check.enter(scribe, "99999");
        check.same("three faults", scribe.faults(), 3);
        check.same("a line", Check.lines(scribe), "0;");
        check.same("a row", Check.rows(scribe), "99999=0;");
        check.same("a field", Check.field(scribe, 0), "99999 0");
    }
}
