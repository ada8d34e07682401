/** Promises 12 to 17: rows, row, key, lines, line, faults. */
public final class PromiseResultsTest {
    private static final int[] WILD = {-1, 20, 40, 60, Integer.MIN_VALUE, Integer.MAX_VALUE};
    private static final String SIXTY = "abcdefghijklmnopqrstuvwxyz0123456789abcdefghijklmnopqrstuvwx";

    public static void main(String[] args) {
        Suite.run(PromiseResultsTest.class);
    }

    /** Rows of the keys "k1", "k2" and so on, grown by their record's number. */
    private static FieldScribe withRows(int count) {
        FieldScribe scribe = Check.withAction(1, 1, 0, -21, 0);
        for (int row = 1; row <= count; row++) {
            Check.enter(scribe, "k" + row);
        }
        return scribe;
    }

    /** Lines of "n1", "n2" and so on, by their record's number. */
    private static FieldScribe withLines(int count) {
        FieldScribe scribe = Check.withAction(2, 0, 4, -1, -21);
        for (int line = 1; line <= count; line++) {
            Check.enter(scribe, "n");
        }
        return scribe;
    }

    @Says("Returns how many rows there are.")
    static void promise12FromZeroToTwenty(Check check) {
        FieldScribe scribe = Check.withAction(1, 1, 0, -21, 0);
        check.same("at first", scribe.rows(), 0);
        for (int row = 1; row <= 22; row++) {
            Check.enter(scribe, "k" + row);
            check.same("rows", scribe.rows(), Math.min(row, 20));
            Check.enter(scribe, "k" + row);
            check.same("the same key again", scribe.rows(), Math.min(row, 20));
        }
    }

    @Says("Returns how many rows there are.")
    static void promise12BehindADrop(Check check) {
        FieldScribe scribe = withRows(3);
        scribe.rule(0, 0, 0);
        scribe.act(1, 3, 1, 0, 0, 0);
        Check.enter(scribe, "k2");
        check.same("one less", scribe.rows(), 2);
        Check.enter(scribe, "k4");
        check.same("made and dropped", scribe.rows(), 2);
    }

    @Says("index: 0 for the row that was made first")
    static void promise13OrderOfMaking(Check check) {
        FieldScribe scribe = withRows(20);
        check.same("the first", scribe.row(0), 1);
        check.same("the last", scribe.row(19), 20);
        Check.enter(scribe, "k1");
        check.same("growing does not move it", scribe.row(0), 22);
    }

    @Says("index: 0 for the row that was made first")
    static void promise13OrderBehindADrop(Check check) {
        FieldScribe scribe = withRows(3);
        scribe.rule(0, 0, 0);
        scribe.act(1, 3, 1, 0, 0, 0);
        Check.enter(scribe, "k1");
        check.same("the next one is the first", scribe.row(0), 2);
        check.same("the last one is the second", scribe.row(1), 3);
        check.refused("there is no third", Check.INDEX, () -> scribe.row(2));
    }

    @Says("Throws IndexOutOfBoundsException if there is no such row")
    static void promise13NoSuchRow(Check check) {
        FieldScribe none = new FieldScribe();
        check.refused("the first of none", Check.INDEX, () -> none.row(0));
        FieldScribe scribe = withRows(2);
        check.same("the last", scribe.row(1), 2);
        check.refused("one behind the last", Check.INDEX, () -> scribe.row(2));
        for (int index : WILD) {
            check.refused("of none", Check.INDEX, () -> none.row(index));
            check.refused("of two", Check.INDEX, () -> scribe.row(index));
        }
        FieldScribe full = withRows(21);
        check.refused("one behind twenty", Check.INDEX, () -> full.row(20));
    }

    @Says("Throws IndexOutOfBoundsException if there is no such row [..]")
    static void promise14NoSuchRow(Check check) {
        FieldScribe none = new FieldScribe();
        check.refused("the first of none", Check.INDEX, () -> none.key(0, 0));
        FieldScribe scribe = withRows(2);
        check.same("the first", Check.key(scribe, 0), "k1");
        check.same("the last", Check.key(scribe, 1), "k2");
        check.refused("one behind the last", Check.INDEX, () -> scribe.key(2, 0));
        for (int index : WILD) {
            check.refused("of none", Check.INDEX, () -> none.key(index, 0));
            check.refused("of two", Check.INDEX, () -> scribe.key(index, 0));
        }
        FieldScribe full = withRows(21);
        check.same("of twenty", Check.key(full, 19), "k20");
        check.refused("one behind twenty", Check.INDEX, () -> full.key(20, 0));
    }

    @Says("Throws IndexOutOfBoundsException if there is no such [..] character")
    static void promise14NoSuchCharacter(Check check) {
        FieldScribe scribe = withRows(1);
        check.same("the first", scribe.key(0, 0), 'k');
        check.same("the last", scribe.key(0, 1), '1');
        check.refused("one behind the last", Check.INDEX, () -> scribe.key(0, 2));
        for (int place : WILD) {
            check.refused("place " + place, Check.INDEX, () -> scribe.key(0, place));
        }
    }

    @Says("place: 0 for the first character")
    static void promise14OfAnEmptyAndAFullKey(Check check) {
        FieldScribe scribe = Check.withAction(1, 0, 0, 1, 0);
        scribe.end();
        Check.enter(scribe, SIXTY);
        check.refused("of an empty key", Check.INDEX, () -> scribe.key(0, 0));
        check.same("the sixtieth", scribe.key(1, 59), 'x');
        check.refused("a sixty-first", Check.INDEX, () -> scribe.key(1, 60));
    }

    @Says("key(int index, int place)")
    static void promise14StaysWhenTheFieldChanges(Check check) {
        FieldScribe scribe = Check.withAction(1, 1, 0, 1, 0);
        scribe.act(0, 0, 1, 0, 99, 0);
        Check.enter(scribe, "abc");
        scribe.setField(1, 5);
        check.same("the key", Check.rows(scribe), "abc=1;");
    }

    @Says("Returns 0 to 40.")
    static void promise15FromZeroToForty(Check check) {
        FieldScribe scribe = Check.withAction(2, 0, 0, -1, 0);
        check.same("at first", scribe.lines(), 0);
        for (int line = 1; line <= 43; line++) {
            scribe.end();
            check.same("lines", scribe.lines(), Math.min(line, 40));
        }
    }

    @Says("line: 0 for the first line that is kept")
    static void promise16OrderOfPrinting(Check check) {
        FieldScribe scribe = withLines(41);
        check.same("the first", Check.line(scribe, 0), "n2");
        check.same("the last", Check.line(scribe, 39), "n41");
    }

    @Says("Throws IndexOutOfBoundsException if there is no such line [..]")
    static void promise16NoSuchLine(Check check) {
        FieldScribe none = new FieldScribe();
        check.refused("the first of none", Check.INDEX, () -> none.line(0, 0));
        FieldScribe scribe = withLines(2);
        check.same("the last", Check.line(scribe, 1), "n2");
        check.refused("one behind the last", Check.INDEX, () -> scribe.line(2, 0));
        for (int line : WILD) {
            check.refused("of none", Check.INDEX, () -> none.line(line, 0));
            check.refused("of two", Check.INDEX, () -> scribe.line(line, 0));
        }
        FieldScribe full = withLines(41);
        check.refused("one behind forty", Check.INDEX, () -> full.line(40, 0));
    }

    @Says("Throws IndexOutOfBoundsException if there is no such [..] character")
    static void promise16NoSuchCharacter(Check check) {
        FieldScribe scribe = withLines(1);
        check.same("the first", scribe.line(0, 0), 'n');
        check.same("the last", scribe.line(0, 1), '1');
        check.refused("one behind the last", Check.INDEX, () -> scribe.line(0, 2));
        for (int place : WILD) {
            check.refused("place " + place, Check.INDEX, () -> scribe.line(0, place));
        }
    }

    @Says("place: 0 for the first character")
    static void promise16OfAnEmptyAndAFullLine(Check check) {
        FieldScribe scribe = Check.withAction(2, 0, 0, -1, 0);
        scribe.end();
        Check.enter(scribe, SIXTY);
        check.refused("of an empty line", Check.INDEX, () -> scribe.line(0, 0));
        check.same("the sixtieth", scribe.line(1, 59), 'x');
        check.refused("a sixty-first", Check.INDEX, () -> scribe.line(1, 60));
    }

    @Says("line(int line, int place)")
    static void promise16StaysWhenTheFieldChanges(Check check) {
        FieldScribe scribe = Check.withAction(2, 0, 0, -2, 0);
        scribe.act(0, 0, 1, 0, 99, 0);
        Check.enter(scribe, "abc");
        scribe.setField(1, 5);
        check.same("the line", Check.lines(scribe), "abc;");
    }

    @Says("Returns how many faults there were.")
    static void promise17NoneAtFirst(Check check) {
        FieldScribe scribe = Check.withAction(2, 0, 3, -2, -2);
        check.same("at first", scribe.faults(), 0);
        Check.enter(scribe, "46340");
        check.same("without a fault", scribe.faults(), 0);
    }

    @Says("Returns how many faults there were.")
    static void promise17EachIsCounted(Check check) {
        FieldScribe scribe = Check.withAction(2, 0, 3, -2, -2);
        scribe.act(0, 0, 0, 3, -2, -2);
        Check.enter(scribe, "99999");
        check.same("two of one record", scribe.faults(), 2);
        Check.enter(scribe, "5");
        check.same("none of the next", scribe.faults(), 2);
        scribe.useStack(true);
        Check.enter(scribe, "99999");
        check.same("two more by the stack", scribe.faults(), 4);
        for (int record = 0; record < 50; record++) {
            Check.enter(scribe, "99999");
        }
        check.same("a hundred more", scribe.faults(), 104);
    }

    @Says("Returns how many faults there were.")
    static void promise17OfExpressionsAndOfGrowing(Check check) {
        FieldScribe scribe = Check.withAction(1, 2, 0, -2, 0);
        scribe.act(0, 2, 0, 3, -2, -2);
        for (String record : new String[] {"999999999 a", "999999999 a", "999999999 a"}) {
            Check.enter(scribe, record);
        }
        check.same("three products, one row", scribe.faults(), 4);
    }

    @Says("A call that throws an exception changes nothing.")
    static void promise17RefusedCallsAreNoFaults(Check check) {
        FieldScribe scribe = new FieldScribe();
        check.refused("a rule", Check.ARGUMENT, () -> scribe.rule(4, 0, 0));
        check.refused("an action", Check.INDEX, () -> scribe.act(0, 0, 0, 0, 0, 0));
        check.refused("a character", Check.ARGUMENT, () -> scribe.type(38));
        check.same("faults", scribe.faults(), 0);
    }
}
