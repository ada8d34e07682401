/** The term "Actions": fields set, rows, lines, dropping, going on; and their bounds and faults. */
public final class TermActionsTest {
    public static void main(String[] args) {
        Suite.run(TermActionsTest.class);
    }

    @Says("0 the field f becomes the value")
    static void setsAFieldAtTheEdges(Check check) {
        FieldScribe first = Check.withAction(0, 0, 0, 9, 0);
        Check.enter(first, "a b");
        check.same("the field 0", Check.fields(first), "1|9|9|||||||||||");
        FieldScribe last = Check.withAction(0, 12, 0, 9, 0);
        Check.enter(last, "a b");
        check.same("the field 12", Check.fields(last), "12|a b          9|a|b||||||||||9");
    }

    @Says("0 the field f becomes the value")
    static void setsAFieldToATextOfItself(Check check) {
        FieldScribe scribe = Check.withAction(0, 1, 4, -2, -2);
        scribe.act(0, 0, 2, 4, -1, -3);
        Check.enter(scribe, "ab c");
        check.same("twice itself, and the record with itself", Check.field(scribe, 0), "abab abab cc");
    }

    @Says("1 the row with the text of the field f as its key grows by the number of the value")
    static void rowsGrow(Check check) {
        FieldScribe scribe = Check.withAction(1, 1, 0, -3, 0);
        Check.enter(scribe, "b 5");
        Check.enter(scribe, "a 2");
        Check.enter(scribe, "b 7x");
        Check.enter(scribe, "b x");
        check.same("rows in the order of their making", Check.rows(scribe), "b=12;a=2;");
        FieldScribe falling = Check.withAction(1, 0, 2, -2, -3);
        Check.enter(falling, "3 5");
        Check.enter(falling, "3 5");
        check.same("below 0, the record as key", Check.rows(falling), "3 5=-4;");
    }

    @Says("1 the row with the text of the field f as its key")
    static void rowsKeysAreTheirTexts(Check check) {
        FieldScribe scribe = Check.withAction(1, 1, 0, 1, 0);
        for (String key : new String[] {"7", "007", "7x", "7", "70", "a", "ab", "a"}) {
            Check.enter(scribe, key);
        }
        check.same("the same number is not the same key", Check.rows(scribe), "7=2;007=1;7x=1;70=1;a=2;ab=1;");
    }

    @Says("1 the row with the text of the field f as its key")
    static void rowsOfAnEmptyKey(Check check) {
        FieldScribe scribe = Check.withAction(1, 12, 0, 3, 0);
        Check.enter(scribe, "a");
        check.same("a field that there is not", Check.rows(scribe), "=3;");
        Check.enter(scribe, "");
        check.same("the same one", Check.rows(scribe), "=6;");
        check.refused("its key has no character", Check.INDEX, () -> scribe.key(0, 0));
    }

    @Says("of its text, so by the first nine digits at the most")
    static void rowsGrowByNineDigitsAtTheMost(Check check) {
        FieldScribe typed = Check.withAction(1, 2, 0, -2, 0);
        Check.enter(typed, "1234567890 a");
        Check.enter(typed, "999999999 b");
        check.same("a text of ten digits", Check.rows(typed), "a=123456789;b=999999999;");
        FieldScribe sum = Check.withAction(1, 2, 1, -2, -2);
        Check.enter(sum, "999999999 a");
        check.same("a sum of ten digits", Check.rows(sum), "a=199999999;");
        FieldScribe product = Check.withAction(1, 0, 3, -2, -3);
        Check.enter(product, "715827882 3");
        check.same("a product of ten digits", Check.rows(product), "715827882 3=214748364;");
        check.same("no fault", typed.faults() + sum.faults() + product.faults(), 0);
    }

    @Says("of its text, so by the first nine digits at the most")
    static void rowsFallByNineDigitsAtTheMost(Check check) {
        FieldScribe scribe = Check.withAction(0, 1, 2, 0, -2);
        scribe.act(0, 1, 2, 2, -2, -3);
        Check.enter(scribe, "999999999 999999999");
        check.same("a difference of ten digits", Check.rows(scribe), "999999999=-199999999;");
    }

    @Says("from 0 on if there is none")
    static void rowsBeginAtZero(Check check) {
        FieldScribe scribe = Check.withAction(1, 1, 0, -3, 0);
        Check.enter(scribe, "a 4");
        Check.enter(scribe, "b x");
        Check.enter(scribe, "c");
        check.same("a row is made even if it grows by 0", Check.rows(scribe), "a=4;b=0;c=0;");
    }

    @Says("2 the value is printed as a line")
    static void linesOfValues(Check check) {
        FieldScribe scribe = Check.withAction(2, 0, 0, -3, 0);
        Check.enter(scribe, "a b");
        Check.enter(scribe, "a 007");
        check.same("their texts", Check.lines(scribe), "b;007;");
    }

    @Says("2 the value is printed as a line")
    static void linesOfAnEmptyValue(Check check) {
        FieldScribe scribe = Check.withAction(2, 0, 0, -1, 0);
        scribe.end();
        check.same("an empty line is one", scribe.lines(), 1);
        check.refused("without characters", Check.INDEX, () -> scribe.line(0, 0));
    }

    /** Records of "1 key" drop the row of that key, the other ones let it grow by the number 3. */
    private static FieldScribe dropper() {
        FieldScribe scribe = new FieldScribe();
        scribe.rule(1, 1, 1);
        scribe.act(0, 3, 2, 3, 9999, 9999);
        scribe.act(0, 4, 0, 0, 0, 0);
        scribe.rule(0, 0, 0);
        scribe.act(1, 1, 2, 0, 3, 0);
        for (String key : new String[] {"a", "b", "c"}) {
            Check.enter(scribe, "0 " + key);
        }
        return scribe;
    }

    @Says("3 the row with the text of the field f as its key is dropped")
    static void droppingTheFirstTheMiddleAndTheLast(Check check) {
        FieldScribe first = dropper();
        Check.enter(first, "1 a");
        check.same("the first", Check.rows(first), "b=3;c=3;");
        FieldScribe middle = dropper();
        Check.enter(middle, "1 b");
        check.same("the middle one", Check.rows(middle), "a=3;c=3;");
        FieldScribe last = dropper();
        Check.enter(last, "1 c");
        check.same("the last", Check.rows(last), "a=3;b=3;");
        Check.enter(last, "1 a");
        Check.enter(last, "1 b");
        check.same("all", last.rows(), 0);
        check.refused("there is no row 0 then", Check.INDEX, () -> last.row(0));
    }

    @Says("3 the row with the text of the field f as its key is dropped")
    static void droppingARowThatThereIsNot(Check check) {
        FieldScribe none = Check.withAction(3, 1, 0, 0, 0);
        check.same("of no rows", Check.enter(none, "a"), 1);
        check.same("nothing comes of it", none.rows() + none.faults(), 0);
        FieldScribe scribe = dropper();
        Check.enter(scribe, "1 d");
        Check.enter(scribe, "1 ");
        check.same("of others", Check.rows(scribe), "a=3;b=3;c=3;");
        Check.enter(scribe, "1 b");
        Check.enter(scribe, "1 b");
        check.same("of one dropped before", Check.rows(scribe), "a=3;c=3;");
    }

    @Says("3 the row with the text of the field f as its key is dropped")
    static void droppedRowsBeginAnewAtTheEndFromZero(Check check) {
        FieldScribe scribe = dropper();
        Check.enter(scribe, "0 a");
        Check.enter(scribe, "1 a");
        Check.enter(scribe, "0 a");
        check.same("behind the others, from 0 on", Check.rows(scribe), "b=3;c=3;a=3;");
    }

    @Says("3 the row with the text of the field f as its key is dropped")
    static void droppingLeavesTheRestOfTheRecord(Check check) {
        FieldScribe scribe = Check.withAction(3, 1, 0, 0, 0);
        scribe.act(0, 2, 0, 0, 8, 0);
        scribe.rule(0, 0, 0);
        check.same("the rules behind", Check.enter(scribe, "a"), 3);
        check.same("the actions behind", Check.lines(scribe), "8;");
        check.same("the record", Check.fields(scribe), "1|a|a|||||||||||");
    }

    @Says("4 no more is done with this record")
    static void goingOnLeavesLaterActions(Check check) {
        FieldScribe scribe = Check.withAction(2, 0, 0, 1, 0);
        scribe.act(0, 4, 0, 0, 0, 0);
        scribe.act(0, 2, 0, 0, 2, 0);
        scribe.end();
        check.same("the one before is done", Check.lines(scribe), "1;");
    }

    @Says("4 no more is done with this record")
    static void goingOnLeavesLaterRules(Check check) {
        FieldScribe scribe = new FieldScribe();
        scribe.rule(0, 0, 0);
        scribe.rule(1, 1, 5);
        scribe.act(1, 4, 0, 0, 0, 0);
        scribe.rule(0, 0, 0);
        scribe.act(2, 2, 0, 0, 2, 0);
        check.same("its own rule was true", Check.enter(scribe, "5"), 3);
        check.same("nothing is printed", scribe.lines(), 0);
        check.same("the next record has them again", Check.enter(scribe, "6"), 5);
        check.same("a line", scribe.lines(), 1);
    }

    @Says("The expressions of 3 and 4 are not found, so they make no faults.")
    static void droppingFindsNoExpression(Check check) {
        for (int stack = 0; stack < 2; stack++) {
            FieldScribe scribe = Check.withAction(1, 1, 0, 5, 0);
            scribe.act(0, 3, 1, 3, -2, -2);
            scribe.useStack(stack == 1);
            Check.enter(scribe, "99999");
            check.same("the row is dropped", scribe.rows(), 0);
            check.same("no fault", scribe.faults(), 0);
        }
    }

    @Says("The expressions of 3 and 4 are not found, so they make no faults.")
    static void goingOnFindsNoExpression(Check check) {
        for (int stack = 0; stack < 2; stack++) {
            FieldScribe scribe = Check.withAction(4, 1, 3, -2, -2);
            scribe.act(0, 2, 0, 3, -2, -2);
            scribe.useStack(stack == 1);
            Check.enter(scribe, "99999");
            check.same("no fault", scribe.faults(), 0);
            check.same("the field stays", Check.field(scribe, 0), "99999");
        }
    }

    /** Rows of the keys k0, k1 and so on, each grown by its field 2. */
    private static FieldScribe filled(int rows) {
        FieldScribe scribe = Check.withAction(1, 1, 3, -3, -3);
        for (int row = 0; row < rows; row++) {
            Check.enter(scribe, "k" + row + " " + row);
        }
        return scribe;
    }

    @Says("There are at most 20 rows")
    static void rowsOfTwenty(Check check) {
        check.same("nineteen", filled(19).rows(), 19);
        FieldScribe scribe = filled(20);
        check.same("twenty", scribe.rows(), 20);
        check.same("the twentieth", Check.key(scribe, 19) + "=" + scribe.row(19), "k19=361");
    }

    @Says("one more is not made")
    static void rowsOfTwentyOneAreNotMade(Check check) {
        FieldScribe scribe = filled(20);
        String before = Check.rows(scribe);
        check.same("its rule was true", Check.enter(scribe, "k20 5"), 1);
        check.same("none is made, none goes", Check.rows(scribe), before);
        check.same("no fault", scribe.faults(), 0);
    }

    @Says("though its expression is found")
    static void rowsThatAreNotMadeHaveTheirFaults(Check check) {
        for (int stack = 0; stack < 2; stack++) {
            FieldScribe scribe = filled(20);
            scribe.useStack(stack == 1);
            Check.enter(scribe, "one 99999");
            check.same("a fault", scribe.faults(), 1);
            check.same("no row", scribe.rows(), 20);
        }
    }

    @Says("There are at most 20 rows; one more is not made")
    static void rowsThatThereAreGrowAmongTwenty(Check check) {
        FieldScribe scribe = filled(20);
        Check.enter(scribe, "k0 3");
        Check.enter(scribe, "k19 2");
        check.same("the first", scribe.row(0), 9);
        check.same("the last", scribe.row(19), 365);
    }

    @Says("There are at most 20 rows")
    static void rowsHaveRoomAgainBehindADrop(Check check) {
        FieldScribe scribe = new FieldScribe();
        scribe.rule(1, 2, 1);
        scribe.act(0, 3, 1, 0, 0, 0);
        scribe.act(0, 4, 0, 0, 0, 0);
        scribe.rule(0, 0, 0);
        scribe.act(1, 1, 1, 0, 4, 0);
        for (int row = 0; row < 21; row++) {
            Check.enter(scribe, "k" + row);
        }
        Check.enter(scribe, "k0 1");
        check.same("nineteen", scribe.rows(), 19);
        Check.enter(scribe, "k20");
        Check.enter(scribe, "k21");
        check.same("twenty again", scribe.rows(), 20);
        check.same("the first", Check.key(scribe, 0), "k1");
        check.same("the last", Check.key(scribe, 19) + "=" + scribe.row(19), "k20=4");
        Check.enter(scribe, "k20 1");
        check.same("the last one of twenty goes", scribe.rows(), 19);
        check.same("the one before it stays", Check.key(scribe, 18), "k19");
    }

    @Says("There are at most 20 rows")
    static void rowsOfTwentyAreTheirOwnBehindADropOfFew(Check check) {
        FieldScribe scribe = new FieldScribe();
        scribe.rule(1, 2, 0);
        scribe.act(0, 3, 1, 0, 0, 0);
        scribe.act(0, 4, 0, 0, 0, 0);
        scribe.rule(0, 0, 0);
        scribe.act(1, 1, 1, 0, -3, 0);
        for (String record : new String[] {"x 1", "y 2", "z 3", "x 0", "z 0"}) {
            Check.enter(scribe, record);
        }
        StringBuilder due = new StringBuilder("y=2;");
        for (int row = 1; row <= 19; row++) {
            Check.enter(scribe, "k" + row + " " + row);
            due.append("k").append(row).append("=").append(row).append(";");
        }
        check.same("twenty keys with their own numbers", Check.rows(scribe), due.toString());
    }

    /** The number of its record, printed for each of the records. */
    private static FieldScribe printed(int records) {
        FieldScribe scribe = Check.withAction(2, 0, 0, -21, 0);
        for (int record = 0; record < records; record++) {
            scribe.end();
        }
        return scribe;
    }

    @Says("At most 40 lines are kept")
    static void linesOfForty(Check check) {
        check.same("thirty-nine", printed(39).lines(), 39);
        FieldScribe scribe = printed(40);
        check.same("forty", scribe.lines(), 40);
        check.same("the first", Check.line(scribe, 0), "1");
        check.same("the fortieth", Check.line(scribe, 39), "40");
    }

    @Says("then the first one goes")
    static void linesOfFortyOneLoseTheFirst(Check check) {
        FieldScribe scribe = printed(41);
        check.same("forty are kept", scribe.lines(), 40);
        for (int line = 0; line < 40; line++) {
            check.same("line " + line, Check.line(scribe, line), Integer.toString(line + 2));
        }
    }

    @Says("then the first one goes")
    static void linesTwiceRound(Check check) {
        for (int records : new int[] {79, 80, 81, 82, 120, 121}) {
            FieldScribe scribe = printed(records);
            check.same("forty are kept", scribe.lines(), 40);
            check.same("the first", Check.line(scribe, 0), Integer.toString(records - 39));
            check.same("the last", Check.line(scribe, 39), Integer.toString(records));
        }
    }

    /** The row "a" with the greatest int, or with the least one. */
    private static FieldScribe grown(boolean up) {
        FieldScribe scribe = Check.withAction(1, 2, up ? 1 : 2, up ? -2 : 0, up ? -13 : -2);
        Check.enter(scribe, "999999999 a");
        Check.enter(scribe, "999999999 a");
        Check.enter(scribe, up ? "147483649 a" : "147483650 a");
        return scribe;
    }

    @Says("Growing that does not fit into an int lets the row be 0, and is a fault.")
    static void rowsGreatestAndLeastIntFit(Check check) {
        FieldScribe up = grown(true);
        check.same("the greatest", up.row(0), Integer.MAX_VALUE);
        Check.enter(up, "0 a");
        check.same("0 more", up.row(0), Integer.MAX_VALUE);
        FieldScribe down = grown(false);
        check.same("the least", down.row(0), Integer.MIN_VALUE);
        check.same("no fault", up.faults() + down.faults(), 0);
    }

    @Says("Growing that does not fit into an int lets the row be 0, and is a fault.")
    static void rowsOneAboveTheGreatestInt(Check check) {
        FieldScribe scribe = grown(true);
        Check.enter(scribe, "1 a");
        check.same("the row", Check.rows(scribe), "a=0;");
        check.same("a fault", scribe.faults(), 1);
    }

    @Says("Growing that does not fit into an int lets the row be 0, and is a fault.")
    static void rowsOneBelowTheLeastInt(Check check) {
        FieldScribe scribe = grown(false);
        Check.enter(scribe, "1 a");
        check.same("the row", Check.rows(scribe), "a=0;");
        check.same("a fault", scribe.faults(), 1);
    }

    @Says("Growing that does not fit into an int lets the row be 0, and is a fault.")
    static void rowsGrowOnFromZeroBehindAFault(Check check) {
        FieldScribe scribe = grown(true);
        Check.enter(scribe, "999999999 b");
        Check.enter(scribe, "999999999 a");
        check.same("0, and the other row stays", Check.rows(scribe), "a=0;b=999999999;");
        Check.enter(scribe, "5 a");
        check.same("grown on", Check.rows(scribe), "a=5;b=999999999;");
        check.same("one fault", scribe.faults(), 1);
    }

    @Says("Growing that does not fit into an int lets the row be 0, and is a fault.")
    static void rowsGrowTooFarByTheStackToo(Check check) {
        FieldScribe scribe = grown(true);
        scribe.useStack(true);
        Check.enter(scribe, "1 a");
        check.same("the row", scribe.row(0), 0);
        check.same("a fault", scribe.faults(), 1);
    }
}
