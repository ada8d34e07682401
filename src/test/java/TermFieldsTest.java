/** The term "Fields": how a record is cut, and how it is made anew. */
public final class TermFieldsTest {
    private static final String CODES = "0123456789abcdefghijklmnopqrstuvwxyz ,";

    public static void main(String[] args) {
        Suite.run(TermFieldsTest.class);
    }

    private static void cut(Check check, String record, String due) {
        FieldScribe scribe = new FieldScribe();
        Check.enter(scribe, "x y z 1 2 3 4 5 6 7 8 9 10 11");
        Check.enter(scribe, record);
        check.same("cut of \"" + record + "\"", Check.fields(scribe), due);
    }

    @Says("its fields are the pieces between separators (by the separator that is set, a blank at first)")
    static void fieldsAreCutAtBlanksAtFirst(Check check) {
        cut(check, "a b", "2|a b|a|b||||||||||");
        cut(check, "a,b c0d", "2|a,b c0d|a,b|c0d||||||||||");
        cut(check, ",", "1|,|,|||||||||||");
    }

    @Says("its fields are the pieces between separators (by the separator that is set, a blank at first)")
    static void fieldsAreCutByTheSeparatorThatIsSet(Check check) {
        for (int code = 0; code <= 37; code++) {
            FieldScribe scribe = new FieldScribe();
            scribe.setSeparator(code);
            String sign = CODES.substring(code, code + 1);
            String other = code == 20 ? "x" : "k";
            Check.enter(scribe, other + sign + other);
            check.same("cut by \"" + sign + "\"", Check.fields(scribe),
                    "2|" + other + sign + other + "|" + other + "|" + other + "||||||||||");
        }
    }

    @Says("numbered from 1, in order")
    static void fieldsAreNumberedFromOne(Check check) {
        FieldScribe scribe = new FieldScribe();
        Check.enter(scribe, "a b c");
        check.same("the field 1", Check.field(scribe, 1), "a");
        check.same("the field 2", Check.field(scribe, 2), "b");
        check.same("the field 3", Check.field(scribe, 3), "c");
    }

    @Says("its fields are the pieces between separators")
    static void fieldsOfARecordWithoutSeparator(Check check) {
        cut(check, "a", "1|a|a|||||||||||");
    }

    @Says("two separators side by side have an empty piece between them")
    static void fieldsEmptyPieceBetweenTwoSeparators(Check check) {
        cut(check, "a  b", "3|a  b|a||b|||||||||");
        cut(check, "a   b", "4|a   b|a|||b||||||||");
    }

    @Says("its fields are the pieces between separators")
    static void fieldsEmptyPieceBeforeAFirstSeparator(Check check) {
        cut(check, " a", "2| a||a||||||||||");
    }

    @Says("its fields are the pieces between separators")
    static void fieldsEmptyPieceBehindALastSeparator(Check check) {
        cut(check, "a ", "2|a |a|||||||||||");
    }

    @Says("its fields are the pieces between separators")
    static void fieldsOfSeparatorsAlone(Check check) {
        cut(check, " ", "2| ||||||||||||");
        cut(check, "  ", "3|  ||||||||||||");
    }

    @Says("an empty record has no fields")
    static void fieldsOfAnEmptyRecord(Check check) {
        check.same("of a new object", new FieldScribe().fields(), 0);
        cut(check, "", "0|||||||||||||");
    }

    @Says("an empty record has no fields")
    static void fieldsOfARecordThatIsEmptied(Check check) {
        FieldScribe whole = Check.withAction(0, 0, 0, -13, 0);
        Check.enter(whole, "a b");
        check.same("the record becomes an empty text", Check.fields(whole), "0|||||||||||||");
        FieldScribe only = Check.withAction(0, 1, 0, -13, 0);
        Check.enter(only, "a");
        check.same("its only field becomes an empty text", Check.fields(only), "0|||||||||||||");
        only.end();
        check.same("the first field of none becomes an empty text", Check.fields(only), "0|||||||||||||");
    }

    @Says("The field 0 is the record.")
    static void fieldsZeroIsTheRecord(Check check) {
        FieldScribe scribe = new FieldScribe();
        check.same("of a new object", Check.field(scribe, 0), "");
        Check.enter(scribe, "31 b,");
        check.same("its text", Check.field(scribe, 0), "31 b,");
        check.same("its number", scribe.number(0), 31);
    }

    @Says("A field, 1 to 12, that there is not is an empty text.")
    static void fieldsThatThereAreNotAreEmptyTexts(Check check) {
        FieldScribe scribe = Check.withAction(2, 0, 4, -3, -13);
        scribe.act(0, 2, 0, 4, -2, -3);
        scribe.act(0, 2, 0, 1, 5, -13);
        scribe.act(0, 1, 12, 0, 4, 0);
        check.same("and run as such", Check.enter(scribe, "6"), 1);
        check.same("as operands", Check.lines(scribe), ";6;5;");
        check.same("as a key", Check.rows(scribe), "=4;");
        for (int field = 2; field <= 12; field++) {
            int absent = field;
            check.same("the number of the field " + field, scribe.number(absent), 0);
            check.refused("a character of the field " + field, Check.INDEX, () -> scribe.character(absent, 0));
        }
        check.same("asking adds none", scribe.fields(), 1);
    }

    @Says("A field, 1 to 12, that there is not is an empty text.")
    static void fieldsThatThereAreNotInPatterns(Check check) {
        FieldScribe scribe = new FieldScribe();
        scribe.rule(1, 1, 0);
        scribe.rule(1, 12, 0);
        scribe.rule(2, 12, 1);
        scribe.rule(2, 1, 12);
        scribe.rule(3, 0, 1);
        check.same("behind the last field", Check.enter(scribe, "a"), 4);
        check.same("an empty record", Check.enter(scribe, ""), 0);
    }

    @Says("A field, 1 to 12, that there is not is an empty text.")
    static void fieldsOfAnEarlierRecordAreGone(Check check) {
        FieldScribe scribe = new FieldScribe();
        Check.enter(scribe, "1 2 3 4 5 6 7 8 9 a b c");
        Check.enter(scribe, "x");
        check.same("one field", Check.fields(scribe), "1|x|x|||||||||||");
        check.same("one more", scribe.setField(3, 8), 3);
        check.same("the empty one", Check.fields(scribe), "3|x  8|x||8|||||||||");
    }

    @Says("When a field is set, and there are fewer, empty ones are added up to it")
    static void fieldsAreAddedUpToTheOneThatIsSet(Check check) {
        FieldScribe scribe = new FieldScribe();
        Check.enter(scribe, "a b");
        check.same("the next one", scribe.setField(3, 1), 3);
        check.same("without an empty one", Check.fields(scribe), "3|a b 1|a|b|1|||||||||");
        check.same("the next but one", scribe.setField(5, 2), 5);
        check.same("with an empty one", Check.fields(scribe), "5|a b 1  2|a|b|1||2|||||||");
        check.same("the twelfth", scribe.setField(12, 3), 12);
        check.same("with six", Check.fields(scribe), "12|a b 1  2       3|a|b|1||2|||||||3");
    }

    @Says("When a field is set, and there are fewer, empty ones are added up to it")
    static void fieldsAreAddedToAnEmptyRecord(Check check) {
        FieldScribe first = new FieldScribe();
        check.same("the first", first.setField(1, 4), 1);
        check.same("has no separator", Check.fields(first), "1|4|4|||||||||||");
        FieldScribe second = new FieldScribe();
        check.same("the second", second.setField(2, 4), 2);
        check.same("has one separator", Check.fields(second), "2| 4||4||||||||||");
        FieldScribe twelfth = new FieldScribe();
        check.same("the twelfth", twelfth.setField(12, 4), 12);
        check.same("has eleven separators", Check.fields(twelfth), "12|           4||||||||||||4");
    }

    @Says("When a field is set, and there are fewer, empty ones are added up to it")
    static void fieldsAreNotAddedIfThereAreAsMany(Check check) {
        FieldScribe scribe = new FieldScribe();
        Check.enter(scribe, "a b c");
        check.same("the last one", scribe.setField(3, 1), 3);
        check.same("none is added", Check.field(scribe, 0), "a b 1");
        check.same("the first one", scribe.setField(1, 2), 3);
        check.same("none goes", Check.field(scribe, 0), "2 b 1");
    }

    @Says("When a field is set, and there are fewer, empty ones are added up to it")
    static void fieldsAreAddedByAnEmptyText(Check check) {
        FieldScribe scribe = Check.withAction(0, 2, 0, -13, 0);
        Check.enter(scribe, "a");
        check.same("a separator behind the first", Check.fields(scribe), "2|a |a|||||||||||");
        scribe.end();
        check.same("a separator alone", Check.fields(scribe), "2| ||||||||||||");
    }

    @Says("then the record becomes all fields with separators between")
    static void fieldsMakeTheRecordWithTheSeparatorThatIsSet(Check check) {
        FieldScribe scribe = new FieldScribe();
        Check.enter(scribe, "a b,c");
        scribe.setSeparator(37);
        check.same("three fields", scribe.setField(3, 9), 3);
        check.same("commas between", Check.fields(scribe), "3|a b,c,9|a b|c|9|||||||||");
        scribe.setSeparator(35);
        check.same("two fields", scribe.setField(2, 1), 2);
        check.same("a letter between", Check.fields(scribe), "2|a b,c,9z1|a b,c,9|1||||||||||");
    }

    @Says("then the record becomes all fields with separators between")
    static void fieldsThatAreEmptyStandInTheRecord(Check check) {
        FieldScribe scribe = new FieldScribe();
        Check.enter(scribe, "  a ");
        check.same("four fields", scribe.setField(3, 5), 4);
        check.same("empty ones before and behind", Check.field(scribe, 0), "  5 ");
    }

    @Says("and the fields are cut anew from it")
    static void fieldsAreCutAnewFromAValueWithSeparators(Check check) {
        FieldScribe scribe = Check.withAction(0, 2, 0, -1, 0);
        Check.enter(scribe, "a b c");
        check.same("the second becomes three", Check.fields(scribe), "5|a a b c c|a|a|b|c|c|||||||");
        FieldScribe digit = new FieldScribe();
        digit.setSeparator(8);
        check.same("a number with separators", digit.setField(2, 1828), 4);
        check.same("its pieces", Check.fields(digit), "4|81828||1|2|||||||||");
    }

    @Says("and the fields are cut anew from it")
    static void fieldsAreCutAnewPastTheTwelfth(Check check) {
        FieldScribe scribe = Check.withAction(0, 1, 0, -1, 0);
        Check.enter(scribe, "1 2 3 4 5 6 7 8 9 a b c");
        check.same("the old ones stand in the twelfth", Check.fields(scribe),
                "12|1 2 3 4 5 6 7 8 9 a b c 2 3 4 5 6 7 8 9 a b c|1|2|3|4|5|6|7|8|9|a|b|c 2 3 4 5 6 7 8 9 a b c");
    }

    @Says("When the field 0 is set, the fields are cut anew, too.")
    static void fieldsAreCutAnewWhenZeroIsSet(Check check) {
        FieldScribe scribe = new FieldScribe();
        Check.enter(scribe, "a b c");
        check.same("from outside", scribe.setField(0, 77), 1);
        check.same("one field", Check.fields(scribe), "1|77|77|||||||||||");
        scribe.setSeparator(5);
        check.same("with separators", scribe.setField(0, -1525), 3);
        check.same("three fields", Check.fields(scribe), "3|-1525|-1|2||||||||||");
        FieldScribe action = Check.withAction(0, 0, 4, -3, -1);
        Check.enter(action, "a b c");
        check.same("by an action", Check.fields(action), "3|ba b c|ba|b|c|||||||||");
    }

    @Says("There are at most 12 fields")
    static void fieldsElevenTwelveAndMore(Check check) {
        cut(check, "1 2 3 4 5 6 7 8 9 a b", "11|1 2 3 4 5 6 7 8 9 a b|1|2|3|4|5|6|7|8|9|a|b|");
        cut(check, "1 2 3 4 5 6 7 8 9 a b c", "12|1 2 3 4 5 6 7 8 9 a b c|1|2|3|4|5|6|7|8|9|a|b|c");
        cut(check, "1 2 3 4 5 6 7 8 9 a b c d", "12|1 2 3 4 5 6 7 8 9 a b c d|1|2|3|4|5|6|7|8|9|a|b|c d");
    }

    @Says("There are at most 12 fields")
    static void fieldsOfSixtySeparators(Check check) {
        cut(check, " ".repeat(60), "12|" + " ".repeat(60) + "||||||||||||" + " ".repeat(49));
    }

    @Says("the twelfth one is all that is behind the eleventh separator")
    static void fieldsEmptyTwelfth(Check check) {
        cut(check, "1 2 3 4 5 6 7 8 9 a b ", "12|1 2 3 4 5 6 7 8 9 a b |1|2|3|4|5|6|7|8|9|a|b|");
    }

    @Says("the twelfth one is all that is behind the eleventh separator, later separators too")
    static void fieldsTwelfthHasLaterSeparators(Check check) {
        cut(check, "1 2 3 4 5 6 7 8 9 a b  c  ", "12|1 2 3 4 5 6 7 8 9 a b  c  |1|2|3|4|5|6|7|8|9|a|b| c  ");
    }

    @Says("the twelfth one is all that is behind the eleventh separator, later separators too")
    static void fieldsTwelfthStaysWhenAnotherIsSet(Check check) {
        FieldScribe scribe = new FieldScribe();
        Check.enter(scribe, "1 2 3 4 5 6 7 8 9 a b c  d ");
        check.same("another one is set", scribe.setField(11, 5), 12);
        check.same("the record", Check.field(scribe, 0), "1 2 3 4 5 6 7 8 9 a 5 c  d ");
        check.same("the twelfth", Check.field(scribe, 12), "c  d ");
        check.same("it is set itself", scribe.setField(12, 6), 12);
        check.same("its separators go", Check.field(scribe, 0), "1 2 3 4 5 6 7 8 9 a 5 6");
    }
}
