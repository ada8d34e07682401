/** Promises 12 to 17: rows, row, key, lines, line, faults; and the actions and patterns that lead there. */
public final class ResultsTest {
    private static final Class<?> INDEX = IndexOutOfBoundsException.class;
    private static final int[] WILD = {-1, Integer.MIN_VALUE, Integer.MAX_VALUE};

    private final Check check = new Check("ResultsTest");

    public static void main(String[] args) {
        ResultsTest test = new ResultsTest();
        test.rowsGrow();
        test.twentyRows();
        test.dropping();
        test.growingTooFar();
        test.fortyLines();
        test.refusals();
        test.faultsOfProducts();
        test.nextLeavesTheRest();
        test.settingWhileRunning();
        test.operands();
        test.patternSame();
        test.patternLess();
        test.patternRange();
        test.textsAreCutOff();
        test.check.finish();
    }

    private static FieldScribe withAction(int kind, int field, int operation, int x, int y) {
        FieldScribe scribe = new FieldScribe();
        scribe.rule(0, 0, 0);
        scribe.act(0, kind, field, operation, x, y);
        return scribe;
    }

    private void rowsGrow() {
        FieldScribe scribe = withAction(1, 1, 0, -3, 0);
        check.same("no rows at first", scribe.rows(), 0);
        Check.enter(scribe, "b 5");
        Check.enter(scribe, "a 1234567890");
        Check.enter(scribe, "b 7x");
        Check.enter(scribe, "7 x");
        Check.enter(scribe, "007 2");
        Check.enter(scribe, "");
        Check.enter(scribe, " 4");
        check.same("rows in order", Check.rows(scribe), "b=12;a=123456789;7=0;007=2;=4;");
        check.same("how many", scribe.rows(), 5);
        check.same("no faults", scribe.faults(), 0);
        FieldScribe less = withAction(1, 0, 2, -2, -3);
        Check.enter(less, "3 5");
        Check.enter(less, "3 5");
        check.same("the record as key, falling", Check.rows(less), "3 5=-4;");
        FieldScribe tenDigits = withAction(1, 1, 1, -2, -2);
        Check.enter(tenDigits, "999999999");
        check.same("the first nine digits of a sum", Check.rows(tenDigits), "999999999=199999999;");
    }

    private void twentyRows() {
        FieldScribe scribe = new FieldScribe();
        scribe.rule(0, 0, 0);
        scribe.act(0, 1, 1, 3, -3, -3);
        for (int row = 0; row < 20; row++) {
            Check.enter(scribe, "k" + row + " " + row);
        }
        check.same("twenty", scribe.rows(), 20);
        String before = Check.rows(scribe);
        Check.enter(scribe, "one 99999");
        check.same("one more is not made", Check.rows(scribe), before);
        check.same("though its expression is found", scribe.faults(), 1);
        Check.enter(scribe, "k19 2");
        check.same("the ones there are grow still", scribe.row(19), 365);
        check.same("the last key", Check.key(scribe, 19), "k19");
    }

    private void dropping() {
        FieldScribe scribe = new FieldScribe();
        scribe.rule(1, 1, 1);
        scribe.act(0, 3, 2, 3, 9999, 9999);
        scribe.act(0, 4, 0, 0, 0, 0);
        scribe.rule(0, 0, 0);
        scribe.act(1, 1, 2, 0, 3, 0);
        for (String key : new String[] {"a", "b", "c"}) {
            Check.enter(scribe, "0 " + key);
        }
        Check.enter(scribe, "1 b");
        check.same("the one in the middle", Check.rows(scribe), "a=3;c=3;");
        Check.enter(scribe, "1 x");
        check.same("one that is not there", Check.rows(scribe), "a=3;c=3;");
        Check.enter(scribe, "0 b");
        check.same("made anew, behind, from 0 on", Check.rows(scribe), "a=3;c=3;b=3;");
        Check.enter(scribe, "1 a");
        Check.enter(scribe, "1 b");
        Check.enter(scribe, "0 c");
        check.same("the first and the last", Check.rows(scribe), "c=6;");
        Check.enter(scribe, "1 c");
        Check.enter(scribe, "1 c");
        check.same("the only one", scribe.rows(), 0);
        for (int row = 0; row < 21; row++) {
            Check.enter(scribe, "0 " + row);
        }
        Check.enter(scribe, "1 0");
        Check.enter(scribe, "1 19");
        check.same("of a full table", scribe.rows(), 18);
        Check.enter(scribe, "0 19");
        Check.enter(scribe, "0 20");
        check.same("the order then", Check.key(scribe, 0) + Check.key(scribe, 17) + Check.key(scribe, 18)
                + Check.key(scribe, 19), "1181920");
        check.same("its expression is not found", scribe.faults(), 0);
        FieldScribe goingOn = new FieldScribe();
        goingOn.rule(0, 0, 0);
        goingOn.act(0, 3, 1, 0, 0, 0);
        goingOn.act(0, 2, 0, 0, 8, 0);
        goingOn.rule(0, 0, 0);
        check.same("the rules behind a dropping one", Check.enter(goingOn, "a"), 3);
        check.same("the actions behind a dropping one", Check.lines(goingOn), "8;");
    }

    private void growingTooFar() {
        FieldScribe scribe = withAction(1, 2, 0, -2, 0);
        for (int time = 0; time < 2; time++) {
            Check.enter(scribe, "999999999 a");
        }
        Check.enter(scribe, "147483649 a");
        check.same("the greatest int", Check.rows(scribe), "a=2147483647;");
        check.same("fits", scribe.faults(), 0);
        Check.enter(scribe, "1 a");
        check.same("one more", Check.rows(scribe), "a=0;");
        check.same("is a fault", scribe.faults(), 1);
        Check.enter(scribe, "5 a");
        check.same("it grows on from 0", Check.rows(scribe), "a=5;");
        FieldScribe down = withAction(1, 2, 2, 0, -2);
        for (int time = 0; time < 2; time++) {
            Check.enter(down, "999999999 a");
        }
        Check.enter(down, "147483650 a");
        check.same("the least int", Check.rows(down), "a=-2147483648;");
        Check.enter(down, "1 a");
        check.same("one less", Check.rows(down) + down.faults(), "a=0;1");
    }

    private void fortyLines() {
        FieldScribe scribe = withAction(2, 0, 4, -21, -1);
        check.same("no lines at first", scribe.lines(), 0);
        for (int record = 1; record <= 40; record++) {
            Check.enter(scribe, "x");
            check.same("lines", scribe.lines(), record);
        }
        check.same("the first", Check.line(scribe, 0), "1x");
        check.same("the fortieth", Check.line(scribe, 39), "40x");
        Check.enter(scribe, "y");
        check.same("forty at most", scribe.lines(), 40);
        check.same("the first one goes", Check.line(scribe, 0), "2x");
        check.same("the last one comes", Check.line(scribe, 39), "41y");
        for (int record = 42; record <= 85; record++) {
            scribe.end();
        }
        check.same("round once more, first", Check.line(scribe, 0), "46");
        check.same("round once more, last", Check.line(scribe, 39), "85");
        FieldScribe empty = withAction(2, 0, 0, -1, 0);
        empty.end();
        check.same("an empty line is one", empty.lines(), 1);
        check.refused("without characters", INDEX, () -> empty.line(0, 0));
    }

    private void refusals() {
        FieldScribe scribe = new FieldScribe();
        for (int index : new int[] {0, 1, -1, Integer.MIN_VALUE, Integer.MAX_VALUE}) {
            check.refused("row of none", INDEX, () -> scribe.row(index));
            check.refused("key of none", INDEX, () -> scribe.key(index, 0));
            check.refused("line of none", INDEX, () -> scribe.line(index, 0));
        }
        scribe.rule(0, 0, 0);
        scribe.act(0, 1, 1, 0, 1, 0);
        scribe.act(0, 2, 0, 0, -2, 0);
        Check.enter(scribe, "abc");
        check.same("key", scribe.key(0, 2), 'c');
        check.same("line", scribe.line(0, 2), 'c');
        check.refusedUnchanged(scribe, "row(1)", INDEX, () -> scribe.row(1));
        check.refusedUnchanged(scribe, "key(1, 0)", INDEX, () -> scribe.key(1, 0));
        check.refusedUnchanged(scribe, "key(0, 3)", INDEX, () -> scribe.key(0, 3));
        check.refusedUnchanged(scribe, "line(1, 0)", INDEX, () -> scribe.line(1, 0));
        check.refusedUnchanged(scribe, "line(0, 3)", INDEX, () -> scribe.line(0, 3));
        for (int wild : WILD) {
            check.refusedUnchanged(scribe, "row(" + wild + ")", INDEX, () -> scribe.row(wild));
            check.refusedUnchanged(scribe, "key of " + wild, INDEX, () -> scribe.key(wild, 0));
            check.refusedUnchanged(scribe, "key at " + wild, INDEX, () -> scribe.key(0, wild));
            check.refusedUnchanged(scribe, "line of " + wild, INDEX, () -> scribe.line(wild, 0));
            check.refusedUnchanged(scribe, "line at " + wild, INDEX, () -> scribe.line(0, wild));
        }
    }

    private void faultsOfProducts() {
        for (int stack = 0; stack < 2; stack++) {
            FieldScribe scribe = withAction(2, 0, 3, -2, -3);
            scribe.useStack(stack == 1);
            Check.enter(scribe, "46340 46340");
            Check.enter(scribe, "46341 46341");
            Check.enter(scribe, "65536 32767");
            Check.enter(scribe, "65536 32768");
            Check.enter(scribe, "999999999 999999999");
            Check.enter(scribe, "a 5");
            check.same("products", Check.lines(scribe), "2147395600;0;2147418112;0;0;0;");
            check.same("their faults", scribe.faults(), 3);
            FieldScribe below = new FieldScribe();
            below.useStack(stack == 1);
            below.rule(0, 0, 0);
            below.act(0, 0, 1, 2, 0, -2);
            below.act(0, 2, 0, 3, -2, -3);
            below.act(0, 2, 0, 2, -2, -3);
            Check.enter(below, "65536 32768");
            Check.enter(below, "65537 32768");
            check.same("the least int", Check.lines(below), "-2147483648;-98304;0;-98305;");
            check.same("faults below", below.faults(), 1);
        }
    }

    private void nextLeavesTheRest() {
        FieldScribe scribe = new FieldScribe();
        scribe.rule(1, 1, 1);
        scribe.act(0, 2, 0, 0, 1, 0);
        scribe.act(0, 4, 0, 3, 9999, 9999);
        scribe.act(0, 2, 0, 0, 2, 0);
        scribe.rule(3, 1, 2);
        scribe.act(1, 2, 0, 0, 3, 0);
        check.same("the rules behind are not come to", Check.enter(scribe, "1"), 1);
        check.same("nor the actions behind", Check.lines(scribe), "1;");
        check.same("the range has not begun", Check.enter(scribe, "5"), 0);
        check.same("no product is found", scribe.faults(), 0);
        FieldScribe later = new FieldScribe();
        later.rule(1, 2, 9);
        later.act(0, 4, 0, 0, 0, 0);
        later.rule(3, 1, 2);
        check.same("the range begins", Check.enter(later, "1"), 2);
        check.same("its end is passed over", Check.enter(later, "2 9"), 1);
        check.same("so it goes on", Check.enter(later, "7"), 2);
        check.same("to its end", Check.enter(later, "2"), 2);
        check.same("and is over", Check.enter(later, "7"), 0);
    }

    private void settingWhileRunning() {
        FieldScribe scribe = new FieldScribe();
        scribe.rule(1, 1, 5);
        scribe.act(0, 0, 3, 1, -2, -20);
        scribe.act(0, 0, 1, 0, 6, 0);
        scribe.rule(1, 1, 6);
        scribe.act(1, 0, 0, 4, -1, -4);
        scribe.rule(1, 1, 5);
        scribe.act(2, 2, 0, 0, 1, 0);
        check.same("each pattern sees the record as it is then", Check.enter(scribe, "5 a"), 3);
        check.same("the record made anew", Check.fields(scribe), "3|6 a 77|6|a|77|||||||||");
        FieldScribe empties = withAction(0, 2, 0, -13, 0);
        empties.end();
        check.same("an empty text in field 2", Check.fields(empties), "2| ||||||||||||");
        FieldScribe none = withAction(0, 1, 0, -13, 0);
        none.end();
        check.same("an empty text in field 1", none.fields(), 0);
        Check.enter(none, "a b");
        check.same("the first one emptied", Check.fields(none), "2| b||b||||||||||");
        FieldScribe cut = withAction(0, 2, 0, -1, 0);
        Check.enter(cut, "a b c");
        check.same("a value with separators", Check.fields(cut), "5|a a b c c|a|a|b|c|c|||||||");
        FieldScribe whole = withAction(0, 0, 0, -3, 0);
        Check.enter(whole, "a b");
        check.same("the record becomes a field", Check.fields(whole), "1|b|b|||||||||||");
    }

    private void operands() {
        FieldScribe scribe = new FieldScribe();
        scribe.rule(0, 0, 0);
        scribe.act(0, 2, 0, 4, 0, 9999);
        scribe.act(0, 2, 0, 4, -1, -13);
        scribe.act(0, 2, 0, 4, -20, -21);
        scribe.act(0, 2, 0, 4, -12, -2);
        scribe.act(0, 2, 0, 1, -2, -3);
        scribe.act(0, 2, 0, 3, -2, -3);
        scribe.end();
        Check.enter(scribe, "007 2x 3 4 5 6 7 8 9 a b c d");
        check.same("neither joining nor a small result is a fault", scribe.faults(), 0);
        check.same("operands", Check.lines(scribe), "09999;;01;;0;0;"
                + "09999;007 2x 3 4 5 6 7 8 9 a b c dc d;122;b007;9;14;");
    }

    private void patternSame() {
        FieldScribe scribe = new FieldScribe();
        scribe.rule(1, 1, 7);
        scribe.rule(1, 0, 7);
        scribe.rule(1, 12, 0);
        scribe.rule(1, 1, 0);
        check.same("7", Check.enter(scribe, "7"), 3);
        check.same("007", Check.enter(scribe, "007"), 3);
        check.same("7x is a text", Check.enter(scribe, "7x"), 0);
        check.same("7 x", Check.enter(scribe, "7 x"), 1);
        check.same("empty is not 0", Check.enter(scribe, ""), 0);
        check.same("x is not 0", Check.enter(scribe, "x"), 0);
        check.same("0000000007 has ten digits", Check.enter(scribe, "0000000007"), 0);
        check.same("000000007 has nine", Check.enter(scribe, "000000007"), 3);
        check.same("field 12", Check.enter(scribe, "7           00"), 5);
        FieldScribe minus = new FieldScribe();
        minus.setSeparator(5);
        minus.rule(0, 0, 0);
        minus.act(0, 0, 0, 2, 0, 5);
        minus.act(0, 0, 1, 4, -2, 0);
        minus.rule(1, 1, 0);
        check.same("-0 is the same as 0", minus.end(), 3);
        check.same("its text", Check.field(minus, 1), "-0");
    }

    private void patternLess() {
        rising("", " ", " 9", " a", "-", "- ", "-a", ",", ",1", ",a", "1 2", "1234568901", "12x", "2a", "3,", "9,", "a",
                "a ", "a,", "a1", "aa", "b");
        rising("-999999999", "-10", "-9", "-05", "-4", "-0", "3", "04", "5", "10", "0099", "100", "999999999");
        less("10x", "9", 1);
        less("9", "10x", 0);
        less("1234568901", "5", 1);
        less("5", "1234568901", 0);
        less("-", "0", 1);
        less("0", "-", 0);
        less("-1x", "-2", 1);
        less("-2", "-1x", 0);
        less("", "0", 1);
        less("0", "", 0);
        less("0", "0 ", 1);
        less("-0", "0", 0);
        less("0", "-0", 0);
        less("05", "5", 0);
        less("5", "005", 0);
        FieldScribe whole = new FieldScribe();
        whole.rule(2, 1, 0);
        whole.rule(2, 0, 1);
        check.same("a beginning is before the whole", Check.enter(whole, "a b"), 1);
        check.same("the same is not less", Check.enter(whole, "a"), 0);
        FieldScribe absent = new FieldScribe();
        absent.rule(2, 12, 1);
        absent.rule(2, 1, 12);
        check.same("a field that is not there is an empty text", Check.enter(absent, "0"), 1);
    }

    private void rising(String... texts) {
        for (int first = 0; first < texts.length; first++) {
            for (int second = 0; second < texts.length; second++) {
                less(texts[first], texts[second], first < second ? 1 : 0);
            }
        }
    }

    /** A "-" cannot be typed, so an action makes one: "-7" is cut at the separator 7, and leaves it in field 3. */
    private void less(String first, String second, int due) {
        FieldScribe scribe = new FieldScribe();
        scribe.setSeparator(7);
        scribe.rule(0, 0, 0);
        scribe.act(0, 0, 3, 2, 0, 7);
        if (first.startsWith("-")) {
            scribe.act(0, 0, 1, 4, -4, -2);
        }
        if (second.startsWith("-")) {
            scribe.act(0, 0, 2, 4, -4, -3);
        }
        scribe.rule(2, 1, 2);
        int taken = Check.enter(scribe, first.replace("-", "") + "7" + second.replace("-", ""));
        check.same("field 1", Check.field(scribe, 1), first);
        check.same("field 2", Check.field(scribe, 2), second);
        check.same("\"" + first + "\" less than \"" + second + "\"", taken >> 1, due);
    }

    private void patternRange() {
        FieldScribe scribe = new FieldScribe();
        scribe.rule(3, 1, 2);
        scribe.rule(3, 5, 5);
        check.same("before", Check.enter(scribe, "2"), 0);
        check.same("begins", Check.enter(scribe, "01"), 1);
        check.same("within", Check.enter(scribe, "x"), 1);
        check.same("an empty record within", Check.enter(scribe, ""), 1);
        check.same("its beginning again", Check.enter(scribe, "1"), 1);
        check.same("the same record for the other", Check.enter(scribe, "5"), 3);
        check.same("which is over", Check.enter(scribe, "6"), 1);
        check.same("ends", Check.enter(scribe, "2 x"), 1);
        check.same("behind", Check.enter(scribe, "3"), 0);
        check.same("begins anew", Check.enter(scribe, "1"), 1);
        check.same("the other anew", Check.enter(scribe, "5"), 3);
        check.same("ends again", Check.enter(scribe, "002"), 1);
        check.same("field 1 alone counts", Check.enter(scribe, "x 1"), 0);
    }

    private void textsAreCutOff() {
        String forty = "abcdefghijklmnopqrstuvwxyzabcdefghijklmn";
        FieldScribe scribe = new FieldScribe();
        scribe.rule(0, 0, 0);
        scribe.act(0, 2, 0, 4, -1, -1);
        scribe.act(0, 1, 1, 0, 1, 0);
        scribe.act(0, 0, 2, 4, -1, 0);
        Check.enter(scribe, forty);
        String sixty = (forty + forty).substring(0, 60);
        check.same("a line of sixty", Check.line(scribe, 0), sixty);
        check.refused("no sixty-first", INDEX, () -> scribe.line(0, 60));
        check.same("a key", Check.key(scribe, 0), forty);
        check.same("a record of sixty", Check.field(scribe, 0), forty + " " + forty.substring(0, 19));
        scribe.useStack(true);
        Check.enter(scribe, forty);
        check.same("a line of sixty by the stack", Check.line(scribe, 1), sixty);
    }
}
