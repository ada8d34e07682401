/** Promises 1 to 4: a new object, rule, act, useStack. */
public final class PromiseRulesTest {
    private static final int LEAST = Integer.MIN_VALUE;
    private static final int GREATEST = Integer.MAX_VALUE;

    public static void main(String[] args) {
        Suite.run(PromiseRulesTest.class);
    }

    private static void ruleRefused(Check check, int pattern, int a, int b) {
        FieldScribe scribe = new FieldScribe();
        String call = "rule(" + pattern + ", " + a + ", " + b + ")";
        check.refused(call, Check.ARGUMENT, () -> scribe.rule(pattern, a, b));
        check.same("no rule was made by " + call, scribe.rule(0, 0, 0), 0);
    }

    private static void ruleTaken(Check check, int pattern, int a, int b) {
        FieldScribe scribe = new FieldScribe();
        check.same("rule(" + pattern + ", " + a + ", " + b + ")", scribe.rule(pattern, a, b), 0);
    }

    @Says("Creates a language without rules")
    static void promise1NoRules(Check check) {
        FieldScribe scribe = new FieldScribe();
        check.refused("an action of the rule 0", Check.INDEX, () -> scribe.act(0, 0, 0, 0, 0, 0));
        check.same("the rules that were true", Check.enter(scribe, "a"), 0);
        check.same("the first rule", scribe.rule(0, 0, 0), 0);
    }

    @Says("with an empty record of the number 0")
    static void promise1EmptyRecord(Check check) {
        FieldScribe scribe = new FieldScribe();
        check.same("fields, rows, lines, faults", Check.state(scribe), "0|||||||||||||///0");
        check.same("nothing is typed", scribe.type(0), 1);
    }

    @Says("with an empty record of the number 0")
    static void promise1NumberZero(Check check) {
        FieldScribe scribe = Check.withAction(2, 0, 0, -21, 0);
        scribe.end();
        check.same("the first record that is ended is 1", Check.lines(scribe), "1;");
    }

    @Says("Creates a language")
    static void promise1LanguagesAreTheirOwn(Check check) {
        FieldScribe first = Check.withAction(2, 0, 3, -1, -1);
        FieldScribe second = new FieldScribe();
        first.setSeparator(5);
        Check.enter(first, "99999");
        first.type(1);
        check.same("another object's state", Check.state(second), "0|||||||||||||///0");
        check.same("another object's rules", Check.enter(second, "a b5"), 0);
        check.same("another object's separator", Check.fields(second), "2|a b5|a|b5||||||||||");
    }

    @Says("pattern: 0 to 3")
    static void promise2PatternsAtTheEdges(Check check) {
        ruleTaken(check, 0, 0, 0);
        ruleTaken(check, 3, 0, 0);
    }

    @Says("a: for 1 and 2 a field, 0 to 12")
    static void promise2FieldsAAtTheEdges(Check check) {
        for (int pattern = 1; pattern <= 2; pattern++) {
            ruleTaken(check, pattern, 0, 1);
            ruleTaken(check, pattern, 12, 1);
        }
    }

    @Says("for 3 a number, 0 to 9999")
    static void promise2NumbersAAtTheEdges(Check check) {
        ruleTaken(check, 3, 0, 1);
        ruleTaken(check, 3, 9999, 1);
    }

    @Says("b: for 1 and 3 a number, 0 to 9999")
    static void promise2NumbersBAtTheEdges(Check check) {
        for (int pattern = 1; pattern <= 3; pattern += 2) {
            ruleTaken(check, pattern, 1, 0);
            ruleTaken(check, pattern, 1, 9999);
        }
    }

    @Says("for 2 a field, 0 to 12")
    static void promise2FieldsBAtTheEdges(Check check) {
        ruleTaken(check, 2, 1, 0);
        ruleTaken(check, 2, 1, 12);
    }

    @Says("Throws IllegalArgumentException if pattern is out of range")
    static void promise2PatternOutOfRange(Check check) {
        for (int pattern : new int[] {-1, 4, LEAST, GREATEST}) {
            ruleRefused(check, pattern, 0, 0);
        }
    }

    @Says("Throws IllegalArgumentException if pattern is out of range, or a or b, if it matters")
    static void promise2FieldOutOfRange(Check check) {
        for (int field : new int[] {-1, 13, LEAST, GREATEST}) {
            ruleRefused(check, 1, field, 0);
            ruleRefused(check, 2, field, 0);
            ruleRefused(check, 2, 0, field);
        }
    }

    @Says("Throws IllegalArgumentException if pattern is out of range, or a or b, if it matters")
    static void promise2NumberOutOfRange(Check check) {
        for (int number : new int[] {-1, 10000, LEAST, GREATEST}) {
            ruleRefused(check, 1, 0, number);
            ruleRefused(check, 3, number, 0);
            ruleRefused(check, 3, 0, number);
        }
    }

    @Says("for 0 it does not matter")
    static void promise2NeitherMattersForEachRecord(Check check) {
        for (int any : new int[] {-1, 13, 10000, LEAST, GREATEST}) {
            ruleTaken(check, 0, any, 0);
            ruleTaken(check, 0, 0, any);
            ruleTaken(check, 0, any, any);
        }
    }

    @Says("Returns number of the rule.")
    static void promise2AnswersTheNumber(Check check) {
        FieldScribe scribe = new FieldScribe();
        check.same("the first", scribe.rule(3, 1, 2), 0);
        check.refused("a refused one", Check.ARGUMENT, () -> scribe.rule(3, 1, -2));
        check.same("the second", scribe.rule(1, 1, 2), 1);
        for (int rule = 2; rule < 7; rule++) {
            scribe.rule(0, 0, 0);
        }
        check.same("the eighth", scribe.rule(2, 1, 2), 7);
    }

    @Says("Throws IllegalStateException if there are 8 rules")
    static void promise2EightRules(Check check) {
        FieldScribe scribe = new FieldScribe();
        for (int rule = 0; rule < 8; rule++) {
            scribe.rule(1, 1, rule);
        }
        for (int pattern = 0; pattern <= 3; pattern++) {
            int refused = pattern;
            check.refused("a ninth", Check.STATE, () -> scribe.rule(refused, 0, 0));
        }
        check.refused("an action of a rule 8", Check.INDEX, () -> scribe.act(8, 0, 0, 0, 0, 0));
        check.same("the eight stand", Check.enter(scribe, "7"), 128);
        check.same("the first one too", Check.enter(scribe, "0"), 1);
    }

    private static void actRefused(Check check, int place, int value) {
        FieldScribe scribe = new FieldScribe();
        scribe.rule(0, 0, 0);
        int[] a = new int[6];
        a[place] = value;
        check.refused("act with " + value + " at " + place, place == 0 ? Check.INDEX : Check.ARGUMENT,
                () -> scribe.act(a[0], a[1], a[2], a[3], a[4], a[5]));
        check.same("no action was made", scribe.act(0, 0, 0, 0, 0, 0), 1);
    }

    private static void actTaken(Check check, int place, int value) {
        FieldScribe scribe = new FieldScribe();
        scribe.rule(0, 0, 0);
        int[] a = new int[6];
        a[place] = value;
        check.same("act with " + value + " at " + place, scribe.act(a[0], a[1], a[2], a[3], a[4], a[5]), 1);
    }

    @Says("rule: a rule")
    static void promise3RulesAtTheEdges(Check check) {
        FieldScribe scribe = new FieldScribe();
        for (int rule = 0; rule < 8; rule++) {
            scribe.rule(0, 0, 0);
        }
        check.same("the first", scribe.act(0, 2, 0, 0, 1, 0), 1);
        check.same("the last", scribe.act(7, 2, 0, 0, 8, 0), 1);
        scribe.end();
        check.same("lines", Check.lines(scribe), "1;8;");
    }

    @Says("Throws IndexOutOfBoundsException if there is no such rule")
    static void promise3NoSuchRule(Check check) {
        for (int rule : new int[] {-1, 1, 7, 8, LEAST, GREATEST}) {
            actRefused(check, 0, rule);
        }
    }

    @Says("kind: 0 to 4")
    static void promise3KindsAtTheEdges(Check check) {
        actTaken(check, 1, 0);
        actTaken(check, 1, 4);
    }

    @Says("field: 0 to 12")
    static void promise3FieldsAtTheEdges(Check check) {
        actTaken(check, 2, 0);
        actTaken(check, 2, 12);
    }

    @Says("operation: 0 to 4")
    static void promise3OperationsAtTheEdges(Check check) {
        actTaken(check, 3, 0);
        actTaken(check, 3, 4);
    }

    @Says("x: the first operand - y: the second operand")
    static void promise3OperandsAtTheEdges(Check check) {
        for (int operand : new int[] {0, 9999, -1, -13, -20, -21}) {
            actTaken(check, 4, operand);
            actTaken(check, 5, operand);
        }
    }

    @Says("Throws IllegalArgumentException if kind, field, operation, x or y is out of range")
    static void promise3KindOutOfRange(Check check) {
        for (int kind : new int[] {-1, 5, LEAST, GREATEST}) {
            actRefused(check, 1, kind);
        }
    }

    @Says("Throws IllegalArgumentException if kind, field, operation, x or y is out of range")
    static void promise3FieldOutOfRange(Check check) {
        for (int field : new int[] {-1, 13, LEAST, GREATEST}) {
            actRefused(check, 2, field);
        }
    }

    @Says("Throws IllegalArgumentException if kind, field, operation, x or y is out of range")
    static void promise3OperationOutOfRange(Check check) {
        for (int operation : new int[] {-1, 5, LEAST, GREATEST}) {
            actRefused(check, 3, operation);
        }
    }

    @Says("Throws IllegalArgumentException if kind, field, operation, x or y is out of range")
    static void promise3OperandOutOfRange(Check check) {
        for (int operand : new int[] {10000, -14, -15, -16, -17, -18, -19, -22, LEAST, GREATEST}) {
            actRefused(check, 4, operand);
            actRefused(check, 5, operand);
        }
    }

    @Says("Throws IllegalArgumentException if kind, field, operation, x or y is out of range")
    static void promise3ArgumentsOfEveryKind(Check check) {
        FieldScribe scribe = new FieldScribe();
        scribe.rule(0, 0, 0);
        for (int each = 0; each <= 4; each++) {
            int kind = each;
            check.refused("field of kind " + kind, Check.ARGUMENT, () -> scribe.act(0, kind, 13, 0, 0, 0));
            check.refused("operation of kind " + kind, Check.ARGUMENT, () -> scribe.act(0, kind, 0, 5, 0, 0));
            check.refused("x of kind " + kind, Check.ARGUMENT, () -> scribe.act(0, kind, 0, 0, 10000, 0));
            check.refused("y of kind " + kind, Check.ARGUMENT, () -> scribe.act(0, kind, 0, 0, 0, 10000));
            check.refused("y of operation " + kind, Check.ARGUMENT, () -> scribe.act(0, 0, 0, kind, 0, -14));
        }
        check.same("no action was made", scribe.act(0, 0, 0, 0, 0, 0), 1);
    }

    @Says("Returns how many actions the rule has then.")
    static void promise3AnswersTheCount(Check check) {
        FieldScribe scribe = new FieldScribe();
        scribe.rule(0, 0, 0);
        scribe.rule(0, 0, 0);
        check.same("the first", scribe.act(0, 0, 0, 0, 0, 0), 1);
        check.same("the second", scribe.act(0, 1, 12, 1, -13, -20), 2);
        check.same("another rule's first", scribe.act(1, 2, 0, 2, 9999, -21), 1);
        check.same("the third", scribe.act(0, 4, 0, 4, 0, -1), 3);
    }

    @Says("Throws IllegalStateException if the rule has 6 actions")
    static void promise3SixActions(Check check) {
        FieldScribe scribe = new FieldScribe();
        scribe.rule(0, 0, 0);
        scribe.rule(0, 0, 0);
        for (int action = 1; action <= 6; action++) {
            check.same("how many", scribe.act(0, 2, 0, 0, action, 0), action);
        }
        check.refused("a seventh", Check.STATE, () -> scribe.act(0, 2, 0, 0, 7, 0));
        check.same("the other rule has room", scribe.act(1, 2, 0, 0, 8, 0), 1);
        scribe.end();
        check.same("six of the one, one of the other", Check.lines(scribe), "1;2;3;4;5;6;8;");
    }

    @Says("Adds an action to a rule.")
    static void promise3BetweenRecords(Check check) {
        FieldScribe scribe = Check.withAction(2, 0, 0, 1, 0);
        scribe.end();
        scribe.act(0, 2, 0, 0, 2, 0);
        scribe.end();
        check.same("the new one is done with later records", Check.lines(scribe), "1;1;2;");
    }

    private static FieldScribe allOperations() {
        FieldScribe scribe = new FieldScribe();
        scribe.rule(0, 0, 0);
        for (int operation = 0; operation <= 4; operation++) {
            scribe.act(0, 2, 0, operation, -2, -3);
        }
        scribe.act(0, 1, 1, 3, -1, -20);
        scribe.rule(0, 0, 0);
        scribe.act(1, 0, 3, 2, -21, -2);
        scribe.act(1, 0, 2, 4, -1, 77);
        scribe.act(1, 0, 0, 4, -1, -1);
        return scribe;
    }

    private static final String[] RECORDS = {
        "", "7", "a b", "999999999 999999999", "12x 3", " 5", "46341 46341", "5 0", "1234567890",
    };

    @Says("a stack machine finds the same values as a tree walker")
    static void promise4StackAndTreeFindTheSame(Check check) {
        for (String record : RECORDS) {
            FieldScribe tree = allOperations();
            FieldScribe stack = allOperations();
            stack.useStack(true);
            check.same("end of " + record, Check.enter(stack, record), Check.enter(tree, record));
            check.same("state behind " + record, Check.state(stack), Check.state(tree));
        }
    }

    @Says("is: true for the stack machine")
    static void promise4StackAndTreeInTurn(Check check) {
        FieldScribe tree = allOperations();
        FieldScribe both = allOperations();
        boolean is = false;
        for (String record : RECORDS) {
            is = !is;
            both.useStack(is);
            both.useStack(is);
            check.same("end of " + record, Check.enter(both, record), Check.enter(tree, record));
        }
        check.same("the state behind them", Check.state(both), Check.state(tree));
    }

    @Says("Lets values be found by the stack machine")
    static void promise4OrderOfOperandsOnTheStack(Check check) {
        FieldScribe scribe = Check.withAction(2, 0, 2, -2, -3);
        scribe.act(0, 2, 0, 4, -2, -3);
        scribe.act(0, 2, 0, 0, -3, -2);
        scribe.act(0, 2, 0, 0, -2, -3);
        scribe.useStack(true);
        Check.enter(scribe, "9 4");
        check.same("lines", Check.lines(scribe), "5;94;4;9;");
    }

    @Says("Lets values be found by the stack machine, or by the tree walker, as at first.")
    static void promise4ChangesNothingElse(Check check) {
        FieldScribe scribe = Check.withAction(2, 0, 4, -1, -21);
        Check.enter(scribe, "a");
        scribe.type(11);
        String before = Check.state(scribe);
        scribe.useStack(true);
        check.same("the state", Check.state(scribe), before);
        check.same("what is typed", scribe.type(12), 2);
        scribe.useStack(false);
        scribe.end();
        check.same("lines", Check.lines(scribe), "a1;bc2;");
    }
}
