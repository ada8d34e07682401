/** The term's last part: which exception is thrown for what, which goes first, and that nothing is changed. */
public final class TermExceptionsTest {
    private interface Refused {
        long on(FieldScribe scribe);
    }

    public static void main(String[] args) {
        Suite.run(TermExceptionsTest.class);
    }

    /** A rule of six actions and an open range, a row, a line, a fault, and a record that is being typed. */
    private static FieldScribe used(boolean full) {
        FieldScribe scribe = new FieldScribe();
        scribe.setSeparator(37);
        scribe.useStack(true);
        scribe.rule(3, 1, 2);
        scribe.act(0, 2, 0, 4, -21, -1);
        scribe.rule(0, 0, 0);
        scribe.act(1, 1, 1, 0, -3, 0);
        for (int action = 0; action < 5; action++) {
            scribe.act(1, 0, 3, 3, -3, -3);
        }
        Check.enter(scribe, "1,99999,a b");
        Check.type(scribe, "5,3");
        for (int more = 0; full && more < 57; more++) {
            scribe.type(11);
        }
        for (int more = 0; full && more < 6; more++) {
            scribe.rule(1, 12, more);
        }
        return scribe;
    }

    /** What the object answers from then on, with all that it holds unseen, in less than 512 calls. */
    private static String story(FieldScribe scribe) {
        StringBuilder told = new StringBuilder(Check.state(scribe));
        told.append("/type ").append(Check.outcome(() -> scribe.type(4)));
        told.append("/separator ").append(Check.outcome(() -> scribe.setField(5, -7))).append(Check.field(scribe, 0));
        told.append("/end ").append(Check.outcome(() -> scribe.end()));
        told.append("/rule ").append(Check.outcome(() -> scribe.rule(1, 1, 2)));
        for (int rule = 0; rule < 4; rule++) {
            int changed = rule;
            told.append("/act ").append(Check.outcome(() -> scribe.act(changed, 2, 0, 4, -21, -20)));
        }
        Check.type(scribe, "2,4,");
        told.append("/end ").append(Check.outcome(() -> scribe.end()));
        told.append("/end ").append(Check.outcome(() -> scribe.end()));
        return told.append("/state ").append(Check.state(scribe)).toString();
    }

    /** The call is refused, and the object goes on like one that was never called so. */
    private static void unchanged(Check check, boolean full, Class<?> kind, Refused... calls) {
        for (int call = 0; call < calls.length; call++) {
            FieldScribe scribe = used(full);
            Refused refused = calls[call];
            check.refused("call " + call, kind, () -> refused.on(scribe));
            check.same("behind call " + call, story(scribe), story(used(full)));
        }
    }

    @Says("IndexOutOfBoundsException is thrown for a rule [..] that does not exist")
    static void indexOfARule(Check check) {
        FieldScribe scribe = new FieldScribe();
        check.refused("the first of none", Check.INDEX, () -> scribe.act(0, 0, 0, 0, 0, 0));
        scribe.rule(0, 0, 0);
        check.refused("-1", Check.INDEX, () -> scribe.act(-1, 0, 0, 0, 0, 0));
        check.refused("one behind the last", Check.INDEX, () -> scribe.act(1, 0, 0, 0, 0, 0));
        check.same("the last", scribe.act(0, 0, 0, 0, 0, 0), 1);
    }

    @Says("a field that is asked or set from outside (other than 0 to 12)")
    static void indexOfAField(Check check) {
        FieldScribe scribe = new FieldScribe();
        Check.enter(scribe, "1 2 3 4 5 6 7 8 9 a b 12 13");
        for (int field : new int[] {-1, 13, -13, Integer.MIN_VALUE, Integer.MAX_VALUE}) {
            check.refused("set " + field, Check.INDEX, () -> scribe.setField(field, 1));
            check.refused("number of " + field, Check.INDEX, () -> scribe.number(field));
            check.refused("character of " + field, Check.INDEX, () -> scribe.character(field, 0));
        }
        check.same("the field 12 is asked", scribe.number(12), 12);
        check.same("the field 12 is set", scribe.setField(12, 5), 12);
        check.same("the field 0 is asked", scribe.number(0), 1);
        check.same("the field 0 is set", scribe.setField(0, 5), 1);
    }

    @Says("a field that is asked or set from outside (other than 0 to 12)")
    static void argumentOfAnActionsOrAPatternsField(Check check) {
        FieldScribe scribe = new FieldScribe();
        scribe.rule(0, 0, 0);
        for (int field : new int[] {-1, 13}) {
            check.refused("an action's " + field, Check.ARGUMENT, () -> scribe.act(0, 0, field, 0, 0, 0));
            check.refused("a pattern's " + field, Check.ARGUMENT, () -> scribe.rule(1, field, 0));
            check.refused("a pattern's second " + field, Check.ARGUMENT, () -> scribe.rule(2, 0, field));
        }
    }

    @Says("a row, line or character that does not exist")
    static void indexOfARowALineOrACharacter(Check check) {
        FieldScribe scribe = new FieldScribe();
        for (int index : new int[] {0, -1, 20, 40}) {
            check.refused("row " + index, Check.INDEX, () -> scribe.row(index));
            check.refused("key of " + index, Check.INDEX, () -> scribe.key(index, 0));
            check.refused("line " + index, Check.INDEX, () -> scribe.line(index, 0));
            check.refused("character " + index, Check.INDEX, () -> scribe.character(0, index));
        }
    }

    @Says("IllegalArgumentException for another argument out of range")
    static void argumentsOutOfRange(Check check) {
        FieldScribe scribe = new FieldScribe();
        check.refused("a pattern", Check.ARGUMENT, () -> scribe.rule(4, 0, 0));
        check.refused("a separator", Check.ARGUMENT, () -> scribe.setSeparator(38));
        check.refused("a character", Check.ARGUMENT, () -> scribe.type(38));
        scribe.rule(0, 0, 0);
        check.refused("a kind", Check.ARGUMENT, () -> scribe.act(0, 5, 0, 0, 0, 0));
    }

    @Says("and IllegalStateException if a call is not possible now")
    static void statesThatDoNotAllowACall(Check check) {
        FieldScribe scribe = used(true);
        check.refused("a ninth rule", Check.STATE, () -> scribe.rule(0, 0, 0));
        check.refused("a seventh action", Check.STATE, () -> scribe.act(1, 0, 0, 0, 0, 0));
        check.refused("a sixty-first character", Check.STATE, () -> scribe.type(0));
        scribe.end();
        check.same("typing is possible then", scribe.type(0), 1);
    }

    @Says("If several apply, IndexOutOfBoundsException goes first")
    static void indexGoesBeforeArgument(Check check) {
        FieldScribe scribe = used(true);
        for (int rule : new int[] {-1, 8}) {
            check.refused("kind", Check.INDEX, () -> scribe.act(rule, 5, 0, 0, 0, 0));
            check.refused("field", Check.INDEX, () -> scribe.act(rule, 0, 13, 0, 0, 0));
            check.refused("operation", Check.INDEX, () -> scribe.act(rule, 0, 0, 5, 0, 0));
            check.refused("x", Check.INDEX, () -> scribe.act(rule, 0, 0, 0, -14, 0));
            check.refused("y", Check.INDEX, () -> scribe.act(rule, 0, 0, 0, 0, -14));
        }
    }

    @Says("then IllegalArgumentException")
    static void argumentGoesBeforeStateOfAct(Check check) {
        FieldScribe scribe = used(true);
        check.refused("kind", Check.ARGUMENT, () -> scribe.act(1, 5, 0, 0, 0, 0));
        check.refused("field", Check.ARGUMENT, () -> scribe.act(1, 0, 13, 0, 0, 0));
        check.refused("operation", Check.ARGUMENT, () -> scribe.act(1, 0, 0, 5, 0, 0));
        check.refused("x", Check.ARGUMENT, () -> scribe.act(1, 0, 0, 0, -14, 0));
        check.refused("y", Check.ARGUMENT, () -> scribe.act(1, 0, 0, 0, 0, -14));
    }

    @Says("then IllegalArgumentException")
    static void argumentGoesBeforeStateOfRule(Check check) {
        FieldScribe scribe = used(true);
        check.refused("pattern", Check.ARGUMENT, () -> scribe.rule(-1, 0, 0));
        check.refused("a", Check.ARGUMENT, () -> scribe.rule(1, 13, 0));
        check.refused("b", Check.ARGUMENT, () -> scribe.rule(3, 0, 10000));
    }

    @Says("then IllegalArgumentException")
    static void argumentGoesBeforeStateOfType(Check check) {
        FieldScribe scribe = used(true);
        check.refused("-1", Check.ARGUMENT, () -> scribe.type(-1));
        check.refused("38", Check.ARGUMENT, () -> scribe.type(38));
    }

    @Says("A call that throws an exception changes nothing.")
    static void nothingChangedByRule(Check check) {
        unchanged(check, false, Check.ARGUMENT, s -> s.rule(-1, 0, 0), s -> s.rule(4, 0, 0), s -> s.rule(1, 13, 0),
                s -> s.rule(1, 0, -1), s -> s.rule(2, -1, 0), s -> s.rule(2, 0, 13), s -> s.rule(3, 10000, 0),
                s -> s.rule(3, 0, 10000));
        unchanged(check, true, Check.STATE, s -> s.rule(0, 0, 0));
    }

    @Says("A call that throws an exception changes nothing.")
    static void nothingChangedByAct(Check check) {
        unchanged(check, false, Check.INDEX, s -> s.act(-1, 0, 0, 0, 0, 0), s -> s.act(2, 0, 0, 0, 0, 0));
        unchanged(check, false, Check.ARGUMENT, s -> s.act(0, 5, 0, 0, 0, 0), s -> s.act(0, 2, 13, 0, 0, 0),
                s -> s.act(0, 2, 0, 5, 0, 0), s -> s.act(0, 2, 0, 0, -14, 0), s -> s.act(0, 2, 0, 0, 0, -14));
        unchanged(check, false, Check.STATE, s -> s.act(1, 2, 0, 0, 0, 0));
        unchanged(check, true, Check.STATE, s -> s.act(1, 2, 0, 0, 0, 0));
    }

    @Says("A call that throws an exception changes nothing.")
    static void nothingChangedBySetSeparatorAndSetField(Check check) {
        unchanged(check, false, Check.ARGUMENT, s -> s.setSeparator(-1), s -> s.setSeparator(38));
        unchanged(check, false, Check.INDEX, s -> s.setField(-1, 5), s -> s.setField(13, 5));
    }

    @Says("A call that throws an exception changes nothing.")
    static void nothingChangedByType(Check check) {
        unchanged(check, false, Check.ARGUMENT, s -> s.type(-1), s -> s.type(38));
        unchanged(check, true, Check.STATE, s -> s.type(0));
        unchanged(check, true, Check.ARGUMENT, s -> s.type(38));
    }

    @Says("A call that throws an exception changes nothing.")
    static void nothingChangedByAsking(Check check) {
        unchanged(check, false, Check.INDEX, s -> s.number(13), s -> s.character(13, 0), s -> s.character(0, 60),
                s -> s.character(5, 0), s -> s.row(1), s -> s.key(0, 1), s -> s.key(1, 0), s -> s.line(1, 0),
                s -> s.line(0, 60), s -> s.row(-1), s -> s.key(-1, 0), s -> s.line(-1, 0));
    }
}
