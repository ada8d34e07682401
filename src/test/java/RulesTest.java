/** Promises 1 to 4: a new object, rule, act, useStack. */
public final class RulesTest {
    private static final Class<?> INDEX = IndexOutOfBoundsException.class;
    private static final Class<?> ARGUMENT = IllegalArgumentException.class;
    private static final Class<?> STATE = IllegalStateException.class;
    private static final int[] WILD = {Integer.MIN_VALUE, Integer.MAX_VALUE, -10000, 100000};

    private final Check check = new Check("RulesTest");

    public static void main(String[] args) {
        RulesTest test = new RulesTest();
        test.newObject();
        test.ruleAnswersItsNumber();
        test.ruleRefusesArguments();
        test.ninthRule();
        test.actAnswersItsCount();
        test.actRefusesArguments();
        test.actOrderOfExceptions();
        test.stackAndTreeFindTheSame();
        test.check.finish();
    }

    private void newObject() {
        FieldScribe scribe = new FieldScribe();
        check.same("new object", Check.state(scribe), "0|||||||||||||///0");
        check.refused("new object has no rule 0", INDEX, () -> scribe.act(0, 0, 0, 0, 0, 0));
        check.same("end without rules", scribe.end(), 0);
        check.same("behind the first end", Check.state(scribe), "0|||||||||||||///0");
        scribe.rule(0, 0, 0);
        scribe.act(0, 2, 0, 0, -21, 0);
        scribe.end();
        check.same("the record before was number 1, so this is 2", Check.lines(scribe), "2;");
        FieldScribe blank = new FieldScribe();
        check.same("separator at first is the blank", afterTyping(blank, "a,b c"), 2);
        check.same("typed at first", new FieldScribe().type(0), 1);
    }

    private static int afterTyping(FieldScribe scribe, String text) {
        Check.enter(scribe, text);
        return scribe.fields();
    }

    private void ruleAnswersItsNumber() {
        FieldScribe scribe = new FieldScribe();
        check.same("rule 0", scribe.rule(0, -1, 10000), 0);
        check.same("rule 1", scribe.rule(1, 0, 9999), 1);
        check.same("rule 2", scribe.rule(1, 12, 0), 2);
        check.same("rule 3", scribe.rule(2, 0, 12), 3);
        check.same("rule 4", scribe.rule(2, 12, 0), 4);
        check.same("rule 5", scribe.rule(3, 0, 9999), 5);
        check.same("rule 6", scribe.rule(3, 9999, 0), 6);
        check.same("rule 7", scribe.rule(0, Integer.MIN_VALUE, Integer.MAX_VALUE), 7);
        check.same("bit r for the rule r", Check.enter(scribe, "9999"), 1 | 2 | 16 | 64 | 128);
    }

    private void ruleRefusesArguments() {
        FieldScribe scribe = new FieldScribe();
        int[][] refused = {
            {-1, 0, 0}, {4, 0, 0},
            {1, -1, 0}, {1, 13, 0}, {1, 0, -1}, {1, 0, 10000},
            {2, -1, 0}, {2, 13, 0}, {2, 0, -1}, {2, 0, 13},
            {3, -1, 0}, {3, 10000, 0}, {3, 0, -1}, {3, 0, 10000},
        };
        for (int[] r : refused) {
            ruleRefused(scribe, r[0], r[1], r[2]);
        }
        for (int wild : WILD) {
            ruleRefused(scribe, wild, 0, 0);
            for (int pattern = 1; pattern <= 3; pattern++) {
                ruleRefused(scribe, pattern, wild, 0);
                ruleRefused(scribe, pattern, 0, wild);
            }
        }
        check.same("no rule was made by the refused ones", scribe.rule(0, 0, 0), 0);
    }

    private void ruleRefused(FieldScribe scribe, int pattern, int a, int b) {
        String call = "rule(" + pattern + ", " + a + ", " + b + ")";
        check.refusedUnchanged(scribe, call, ARGUMENT, () -> scribe.rule(pattern, a, b));
    }

    private void ninthRule() {
        FieldScribe scribe = new FieldScribe();
        for (int rule = 0; rule < 8; rule++) {
            check.same("rule " + rule, scribe.rule(0, 0, 0), rule);
        }
        check.refusedUnchanged(scribe, "a ninth rule", STATE, () -> scribe.rule(0, 0, 0));
        check.refused("argument before state", ARGUMENT, () -> scribe.rule(4, 0, 0));
        check.same("eight rules", scribe.end(), 255);
        check.refused("there is no rule 8", INDEX, () -> scribe.act(8, 0, 0, 0, 0, 0));
        check.same("there is a rule 7", scribe.act(7, 2, 0, 0, 1, 0), 1);
    }

    private void actAnswersItsCount() {
        FieldScribe scribe = new FieldScribe();
        scribe.rule(0, 0, 0);
        scribe.rule(0, 0, 0);
        for (int kind = 0; kind < 5; kind++) {
            check.same("action " + kind, scribe.act(0, kind, 12, kind, -13, -20), kind + 1);
        }
        check.same("another rule", scribe.act(1, 0, 0, 0, 9999, -21), 1);
        check.same("the sixth", scribe.act(0, 0, 0, 0, 0, -1), 6);
        check.refusedUnchanged(scribe, "a seventh", STATE, () -> scribe.act(0, 0, 0, 0, 0, -1));
        check.same("the other rule has room", scribe.act(1, 0, 0, 0, -1, -13), 2);
    }

    private void actRefusesArguments() {
        FieldScribe scribe = new FieldScribe();
        scribe.rule(0, 0, 0);
        int[][] bad = {{}, {-1, 5}, {-1, 13}, {-1, 5}, {-22, 10000}, {-22, 10000}};
        for (int place = 1; place < bad.length; place++) {
            for (int value : bad[place]) {
                actRefused(scribe, place, value, ARGUMENT);
            }
            for (int value : WILD) {
                actRefused(scribe, place, value, ARGUMENT);
            }
        }
        for (int rule : new int[] {-1, 1, 8, Integer.MIN_VALUE, Integer.MAX_VALUE}) {
            actRefused(scribe, 0, rule, INDEX);
        }
        for (int operand = -19; operand <= -14; operand++) {
            actRefused(scribe, 4, operand, ARGUMENT);
            actRefused(scribe, 5, operand, ARGUMENT);
        }
        check.same("no action was made by the refused ones", scribe.act(0, 0, 0, 0, 0, 0), 1);
    }

    private void actRefused(FieldScribe scribe, int place, int value, Class<?> kind) {
        int[] a = new int[6];
        a[place] = value;
        check.refusedUnchanged(scribe, "act with " + value + " at " + place, kind,
                () -> scribe.act(a[0], a[1], a[2], a[3], a[4], a[5]));
    }

    private void actOrderOfExceptions() {
        FieldScribe scribe = new FieldScribe();
        scribe.rule(0, 0, 0);
        for (int action = 0; action < 6; action++) {
            scribe.act(0, 3, 0, 0, 0, 0);
        }
        check.refused("index before argument", INDEX, () -> scribe.act(1, 5, 13, 5, -14, -14));
        check.refused("argument before state", ARGUMENT, () -> scribe.act(0, 3, 0, 0, 0, -14));
        check.refused("state", STATE, () -> scribe.act(0, 3, 0, 0, 0, 0));
    }

    private void stackAndTreeFindTheSame() {
        String[] records = {"", "7", "a b", "999999999 999999999", "12x 3", " 5", "46341 46341", "5 0"};
        FieldScribe tree = allOperations();
        FieldScribe stack = allOperations();
        FieldScribe both = allOperations();
        stack.useStack(true);
        boolean is = false;
        for (String record : records) {
            int taken = Check.enter(tree, record);
            check.same("stack: end of " + record, Check.enter(stack, record), taken);
            both.useStack(is = !is);
            check.same("both in turn: end of " + record, Check.enter(both, record), taken);
            check.same("stack behind " + record, Check.state(stack), Check.state(tree));
            check.same("both in turn behind " + record, Check.state(both), Check.state(tree));
        }
        stack.useStack(false);
        check.same("back to the tree", Check.enter(stack, "3 4"), Check.enter(tree, "3 4"));
        check.same("state back at the tree", Check.state(stack), Check.state(tree));
        FieldScribe product = new FieldScribe();
        product.useStack(true);
        product.rule(0, 0, 0);
        product.act(0, 2, 0, 2, -2, -3);
        product.act(0, 2, 0, 4, -2, -3);
        product.act(0, 2, 0, 0, -3, -2);
        Check.enter(product, "9 4");
        check.same("order of operands on the stack", Check.lines(product), "5;94;4;");
    }

    private static FieldScribe allOperations() {
        FieldScribe scribe = new FieldScribe();
        scribe.rule(0, 0, 0);
        for (int operation = 0; operation <= 4; operation++) {
            scribe.act(0, 2, 0, operation, -2, -3);
        }
        scribe.act(0, 1, 1, 3, -1, -20);
        scribe.rule(0, 0, 0);
        scribe.act(1, 0, 3, 2, -21, -2);
        scribe.act(1, 0, 2, 4, -1, 77);
        scribe.act(1, 0, 0, 4, -1, -1);
        return scribe;
    }
}
