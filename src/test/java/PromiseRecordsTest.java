/** Promises 5 to 11: setSeparator, type, end, setField, fields, number, character. */
public final class PromiseRecordsTest {
    private static final int LEAST = Integer.MIN_VALUE;
    private static final int GREATEST = Integer.MAX_VALUE;
    private static final String SIXTY = "abcdefghijklmnopqrstuvwxyz0123456789abcdefghijklmnopqrstuvwx";

    public static void main(String[] args) {
        Suite.run(PromiseRecordsTest.class);
    }

    @Says("Sets the separator; the record is cut anew.")
    static void promise5CutsAnew(Check check) {
        FieldScribe scribe = new FieldScribe();
        Check.enter(scribe, "a b,c,d e");
        scribe.setSeparator(37);
        check.same("at commas", Check.fields(scribe), "3|a b,c,d e|a b|c|d e|||||||||");
        scribe.setSeparator(35);
        check.same("at a letter that there is not", Check.fields(scribe), "1|a b,c,d e|a b,c,d e|||||||||||");
        scribe.setSeparator(36);
        check.same("at blanks again", Check.fields(scribe), "3|a b,c,d e|a|b,c,d|e|||||||||");
    }

    @Says("code: 0 to 37")
    static void promise5CodesAtTheEdges(Check check) {
        FieldScribe scribe = new FieldScribe();
        Check.enter(scribe, "a0b,c");
        check.same("0", scribe.setSeparator(0), 2);
        check.same("cut at the 0", Check.field(scribe, 2), "b,c");
        check.same("37", scribe.setSeparator(37), 2);
        check.same("cut at the comma", Check.field(scribe, 2), "c");
    }

    @Says("Throws IllegalArgumentException if code is out of range")
    static void promise5CodesOutOfRange(Check check) {
        FieldScribe scribe = new FieldScribe();
        Check.enter(scribe, "a0b,c");
        scribe.setSeparator(37);
        for (int code : new int[] {-1, 38, LEAST, GREATEST}) {
            check.refused("code " + code, Check.ARGUMENT, () -> scribe.setSeparator(code));
        }
        check.same("the comma is the separator still", scribe.setField(3, 1), 3);
        check.same("the record", Check.field(scribe, 0), "a0b,c,1");
    }

    @Says("Returns how many fields there are then.")
    static void promise5AnswersTheFields(Check check) {
        FieldScribe scribe = new FieldScribe();
        check.same("of an empty record", scribe.setSeparator(37), 0);
        Check.enter(scribe, "1,2 3,,,,,,,,,,,,4");
        check.same("the same separator again", scribe.setSeparator(37), 12);
        check.same("one separator", scribe.setSeparator(36), 2);
        check.same("none", scribe.setSeparator(35), 1);
    }

    @Says("the record is cut anew")
    static void promise5LeavesWhatIsTyped(Check check) {
        FieldScribe scribe = new FieldScribe();
        Check.enter(scribe, "a b");
        Check.type(scribe, "1,2,3");
        check.same("the record is cut", scribe.setSeparator(37), 1);
        scribe.end();
        check.same("the next one is cut by it", Check.fields(scribe), "3|1,2,3|1|2|3|||||||||");
    }

    @Says("Types a character of the next record.")
    static void promise6LeavesTheRecord(Check check) {
        FieldScribe scribe = new FieldScribe();
        Check.enter(scribe, "a b");
        Check.type(scribe, "c d e");
        check.same("the record while typing", Check.fields(scribe), "2|a b|a|b||||||||||");
    }

    @Says("code: 0 to 37")
    static void promise6CodesAtTheEdges(Check check) {
        FieldScribe scribe = new FieldScribe();
        check.same("0", scribe.type(0), 1);
        check.same("37", scribe.type(37), 2);
        scribe.end();
        check.same("the record", Check.field(scribe, 0), "0,");
    }

    @Says("Throws IllegalArgumentException if code is out of range")
    static void promise6CodesOutOfRange(Check check) {
        FieldScribe scribe = new FieldScribe();
        for (int code : new int[] {-1, 38, LEAST, GREATEST}) {
            check.refused("code " + code, Check.ARGUMENT, () -> scribe.type(code));
        }
        check.same("nothing is typed by them", scribe.type(10), 1);
        scribe.end();
        check.same("the record", Check.field(scribe, 0), "a");
    }

    @Says("Returns how many characters are typed.")
    static void promise6AnswersTheCharacters(Check check) {
        FieldScribe scribe = new FieldScribe();
        for (int typed = 1; typed <= 60; typed++) {
            check.same("typed", scribe.type(36), typed);
        }
        scribe.end();
        check.same("of the next record", scribe.type(36), 1);
    }

    @Says("Throws IllegalStateException if 60 are typed")
    static void promise6SixtyAreTyped(Check check) {
        FieldScribe scribe = new FieldScribe();
        Check.type(scribe, SIXTY.substring(0, 59));
        check.same("the sixtieth", scribe.type(33), 60);
        check.refused("a sixty-first", Check.STATE, () -> scribe.type(0));
        check.refused("and again", Check.STATE, () -> scribe.type(37));
        scribe.end();
        check.same("the record", Check.field(scribe, 0), SIXTY);
    }

    @Says("Ends the record that was typed, and runs the rules")
    static void promise7EndsTheRecord(Check check) {
        FieldScribe scribe = new FieldScribe();
        scribe.rule(1, 1, 7);
        check.same("a record", Check.enter(scribe, "7 a"), 1);
        check.same("its fields", Check.fields(scribe), "2|7 a|7|a||||||||||");
        scribe.setField(1, 7);
        check.same("what was set is gone", Check.enter(scribe, "8"), 0);
        check.same("the new fields", Check.fields(scribe), "1|8|8|||||||||||");
    }

    @Says("nothing is typed then")
    static void promise7NothingIsTypedThen(Check check) {
        FieldScribe scribe = new FieldScribe();
        Check.enter(scribe, "7 a");
        check.same("the first character", scribe.type(1), 1);
        scribe.end();
        check.same("it stands alone", Check.fields(scribe), "1|1|1|||||||||||");
    }

    @Says("Ends the record that was typed, and runs the rules")
    static void promise7OfAnEmptyRecord(Check check) {
        FieldScribe scribe = Check.withAction(2, 0, 4, -21, -1);
        Check.enter(scribe, "7 a");
        check.same("nothing typed", scribe.end(), 1);
        check.same("an empty record", Check.fields(scribe), "0|||||||||||||");
        check.same("it has its number, and is run", Check.lines(scribe), "17 a;2;");
    }

    @Says("Returns the rules whose patterns were true, as a set: bit r for the rule r.")
    static void promise7AnswersTheSet(Check check) {
        FieldScribe scribe = new FieldScribe();
        check.same("of no rules", Check.enter(scribe, "7"), 0);
        for (int rule = 0; rule < 8; rule++) {
            scribe.rule(1, 1 + rule, 5);
        }
        check.same("none", Check.enter(scribe, "6"), 0);
        check.same("the rule 0", Check.enter(scribe, "5"), 1);
        check.same("the rule 7", Check.enter(scribe, "       5"), 128);
        check.same("some", Check.enter(scribe, "5 5 6 5"), 11);
        check.same("all", Check.enter(scribe, "5 5 5 5 5 5 5 5"), 255);
    }

    @Says("Returns the rules whose patterns were true")
    static void promise7AnswersTheRuleOfAnActionFour(Check check) {
        FieldScribe scribe = new FieldScribe();
        scribe.rule(0, 0, 0);
        scribe.rule(0, 0, 0);
        scribe.act(1, 4, 0, 0, 0, 0);
        scribe.rule(0, 0, 0);
        check.same("the rules 0 and 1", scribe.end(), 3);
    }

    @Says("Returns the rules whose patterns were true")
    static void promise7AnswersARuleThatItsActionsMadeUntrue(Check check) {
        FieldScribe scribe = new FieldScribe();
        scribe.rule(1, 1, 5);
        scribe.act(0, 0, 1, 0, 6, 0);
        check.same("it was true", Check.enter(scribe, "5"), 1);
    }

    @Says("Sets a field to a number, from outside.")
    static void promise8SetsAField(Check check) {
        FieldScribe scribe = Check.withAction(2, 0, 0, 5, 0);
        Check.enter(scribe, "a b c");
        scribe.setField(2, 42);
        check.same("the field", Check.fields(scribe), "3|a 42 c|a|42|c|||||||||");
        check.same("no rule is run", scribe.lines(), 1);
    }

    @Says("field: 0 to 12")
    static void promise8FieldsAtTheEdges(Check check) {
        FieldScribe scribe = new FieldScribe();
        check.same("0", scribe.setField(0, 1), 1);
        check.same("12", scribe.setField(12, 2), 12);
        check.same("the record", Check.field(scribe, 0), "1           2");
    }

    @Says("Throws IndexOutOfBoundsException if there is no such field")
    static void promise8NoSuchField(Check check) {
        FieldScribe scribe = new FieldScribe();
        Check.enter(scribe, "a b");
        for (int field : new int[] {-1, 13, LEAST, GREATEST}) {
            check.refusedUnchanged(scribe, "field " + field, Check.INDEX, () -> scribe.setField(field, 3));
        }
    }

    @Says("number: any int")
    static void promise8AnyInt(Check check) {
        FieldScribe scribe = new FieldScribe();
        int[] numbers = {0, 1, -1, 10000, -10000, 999999999, -999999999, 1000000000, -1000000000, GREATEST, LEAST};
        for (int number : numbers) {
            scribe.setField(1, number);
            check.same("its text", Check.field(scribe, 1), Integer.toString(number));
        }
    }

    @Says("Returns how many fields there are then.")
    static void promise8AnswersTheFields(Check check) {
        FieldScribe scribe = new FieldScribe();
        check.same("more", scribe.setField(7, 1), 7);
        check.same("as many", scribe.setField(3, 1), 7);
        check.same("fewer", scribe.setField(0, 1), 1);
        scribe.setSeparator(5);
        check.same("the number is cut itself", scribe.setField(1, 1525), 3);
        Check.enter(scribe, SIXTY.replace('5', 'x'));
        check.same("what was cut off is not there", scribe.setField(2, 1), 1);
    }

    @Says("Sets a field to a number, from outside.")
    static void promise8LeavesWhatIsTyped(Check check) {
        FieldScribe scribe = new FieldScribe();
        scribe.type(1);
        scribe.setField(0, 77);
        check.same("the next character", scribe.type(2), 2);
        scribe.end();
        check.same("the typed record", Check.field(scribe, 0), "12");
    }

    @Says("Returns 0 to 12.")
    static void promise9FromZeroToTwelve(Check check) {
        FieldScribe scribe = new FieldScribe();
        check.same("at first", scribe.fields(), 0);
        for (int separators = 0; separators <= 14; separators++) {
            Check.enter(scribe, "x" + " x".repeat(separators));
            check.same("separators: " + separators, scribe.fields(), Math.min(separators + 1, 12));
        }
        scribe.end();
        check.same("of an empty record", scribe.fields(), 0);
    }

    @Says("field: 0 to 12")
    static void promise10FieldsAtTheEdges(Check check) {
        FieldScribe scribe = new FieldScribe();
        Check.enter(scribe, "1 2 3 4 5 6 7 8 9 10 11 12 13");
        check.same("0", scribe.number(0), 1);
        check.same("1", scribe.number(1), 1);
        check.same("12", scribe.number(12), 12);
    }

    @Says("Throws IndexOutOfBoundsException if there is no such field")
    static void promise10NoSuchField(Check check) {
        FieldScribe scribe = new FieldScribe();
        Check.enter(scribe, "1 2 3 4 5 6 7 8 9 10 11 12 13");
        for (int field : new int[] {-1, 13, LEAST, GREATEST}) {
            check.refused("field " + field, Check.INDEX, () -> scribe.number(field));
        }
    }

    @Says("Returns the number of its text.")
    static void promise10OfATextWithoutNumber(Check check) {
        FieldScribe scribe = new FieldScribe();
        check.same("of an empty record", scribe.number(0), 0);
        check.same("of a field that there is not", scribe.number(1), 0);
        Check.enter(scribe, "a1  2b");
        check.same("of letters", scribe.number(1), 0);
        check.same("of an empty piece", scribe.number(2), 0);
        check.same("of a beginning", scribe.number(3), 2);
        check.same("of the record", scribe.number(0), 0);
    }

    @Says("Returns the number of its text.")
    static void promise10OfMoreThanNineDigits(Check check) {
        FieldScribe scribe = new FieldScribe();
        scribe.setField(1, GREATEST);
        check.same("the greatest int", scribe.number(1), 214748364);
        scribe.setField(1, LEAST);
        check.same("the least int", scribe.number(0), -214748364);
    }

    @Says("field: 0 to 12")
    static void promise11FieldsAtTheEdges(Check check) {
        FieldScribe scribe = new FieldScribe();
        Check.enter(scribe, "1 2 3 4 5 6 7 8 9 a b c");
        check.same("0", scribe.character(0, 22), 'c');
        check.same("12", scribe.character(12, 0), 'c');
    }

    @Says("Throws IndexOutOfBoundsException if there is no such field")
    static void promise11NoSuchField(Check check) {
        FieldScribe scribe = new FieldScribe();
        Check.enter(scribe, "1 2 3 4 5 6 7 8 9 a b c");
        for (int field : new int[] {-1, 13, LEAST, GREATEST}) {
            check.refused("field " + field, Check.INDEX, () -> scribe.character(field, 0));
        }
    }

    @Says("Throws IndexOutOfBoundsException if there is no such [..] character")
    static void promise11NoSuchCharacter(Check check) {
        FieldScribe scribe = new FieldScribe();
        Check.enter(scribe, "ab,9 z");
        check.same("the first", scribe.character(1, 0), 'a');
        check.same("the last", scribe.character(1, 3), '9');
        check.same("the last of the record", scribe.character(0, 5), 'z');
        for (int place : new int[] {-1, 4, 60, LEAST, GREATEST}) {
            check.refused("place " + place, Check.INDEX, () -> scribe.character(1, place));
        }
        check.refused("behind the record", Check.INDEX, () -> scribe.character(0, 6));
        check.refused("of a field that there is not", Check.INDEX, () -> scribe.character(3, 0));
    }

    @Says("Throws IndexOutOfBoundsException if there is no such [..] character")
    static void promise11NoSuchCharacterOfEmptyTexts(Check check) {
        FieldScribe scribe = new FieldScribe();
        for (int field = 0; field <= 12; field++) {
            int empty = field;
            check.refused("of a new object's field " + field, Check.INDEX, () -> scribe.character(empty, 0));
        }
        Check.enter(scribe, "a  b");
        check.refused("of an empty piece", Check.INDEX, () -> scribe.character(2, 0));
    }

    @Says("place: 0 for the first character")
    static void promise11OfSixtyCharacters(Check check) {
        FieldScribe scribe = new FieldScribe();
        Check.enter(scribe, SIXTY);
        for (int field = 0; field <= 1; field++) {
            int full = field;
            check.same("the first", scribe.character(full, 0), 'a');
            check.same("the sixtieth", scribe.character(full, 59), 'x');
            check.refused("a sixty-first", Check.INDEX, () -> scribe.character(full, 60));
        }
    }
}
