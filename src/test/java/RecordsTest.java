/** Promises 5 to 11: setSeparator, type, end, setField, fields, number, character. */
public final class RecordsTest {
    private static final Class<?> INDEX = IndexOutOfBoundsException.class;
    private static final Class<?> ARGUMENT = IllegalArgumentException.class;
    private static final Class<?> STATE = IllegalStateException.class;
    private static final String SIXTY = "abcdefghijklmnopqrstuvwxyz0123456789abcdefghijklmnopqrstuvwx";

    private final Check check = new Check("RecordsTest");

    public static void main(String[] args) {
        RecordsTest test = new RecordsTest();
        test.everySeparator();
        test.separatorCutsAnew();
        test.everyCharacter();
        test.sixtyCharacters();
        test.cutting();
        test.twelveFields();
        test.endTakesWhatWasTyped();
        test.setFieldMakesTheRecordAnew();
        test.setFieldCutsOff();
        test.setFieldWithADigitAsSeparator();
        test.numbers();
        test.characters();
        test.check.finish();
    }

    private void everySeparator() {
        for (int code = 0; code <= 37; code++) {
            FieldScribe scribe = new FieldScribe();
            int separator = code;
            int other = code == 20 ? 21 : 20;
            check.same("setSeparator(" + code + ") of the empty record", scribe.setSeparator(separator), 0);
            scribe.type(other);
            scribe.type(separator);
            scribe.type(other);
            scribe.end();
            check.same("fields with the separator " + code, scribe.fields(), 2);
        }
        FieldScribe scribe = new FieldScribe();
        Check.enter(scribe, "a b,c");
        for (int code : new int[] {-1, 38, Integer.MIN_VALUE, Integer.MAX_VALUE}) {
            check.refusedUnchanged(scribe, "setSeparator(" + code + ")", ARGUMENT, () -> scribe.setSeparator(code));
        }
        check.same("the separator is the blank still", scribe.setField(3, 1), 3);
        check.same("the record", Check.field(scribe, 0), "a b,c 1");
    }

    private void separatorCutsAnew() {
        FieldScribe scribe = new FieldScribe();
        Check.enter(scribe, "a b,c,d e");
        check.same("cut at blanks", Check.fields(scribe), "3|a b,c,d e|a|b,c,d|e|||||||||");
        check.same("setSeparator answers the fields", scribe.setSeparator(37), 3);
        check.same("cut at commas", Check.fields(scribe), "3|a b,c,d e|a b|c|d e|||||||||");
        check.same("no such separator in it", scribe.setSeparator(35), 1);
        check.same("one field", Check.fields(scribe), "1|a b,c,d e|a b,c,d e|||||||||||");
        Check.type(scribe, "1 2");
        check.same("what is typed is not the record yet", scribe.setSeparator(36), 3);
        scribe.end();
        check.same("it is cut by the separator then", Check.fields(scribe), "2|1 2|1|2||||||||||");
    }

    private void everyCharacter() {
        FieldScribe scribe = new FieldScribe();
        for (int code = 0; code <= 37; code++) {
            check.same("type(" + code + ")", scribe.type(code), code + 1);
        }
        for (int code : new int[] {-1, 38, Integer.MIN_VALUE, Integer.MAX_VALUE}) {
            check.refusedUnchanged(scribe, "type(" + code + ")", ARGUMENT, () -> scribe.type(code));
        }
        check.same("the record while typing", Check.fields(scribe), "0|||||||||||||");
        scribe.end();
        check.same("all characters", Check.field(scribe, 0), "0123456789abcdefghijklmnopqrstuvwxyz ,");
    }

    private void sixtyCharacters() {
        FieldScribe scribe = new FieldScribe();
        Check.type(scribe, SIXTY.substring(1));
        check.same("the sixtieth", scribe.type(10), 60);
        check.refusedUnchanged(scribe, "the sixty-first", STATE, () -> scribe.type(10));
        check.refused("argument before state", ARGUMENT, () -> scribe.type(38));
        scribe.end();
        check.same("sixty in the record", Check.field(scribe, 0), SIXTY.substring(1) + "a");
        check.same("nothing is typed then", scribe.type(0), 1);
    }

    private void cutting() {
        String[][] cuts = {
            {"", "0|||||||||||||"},
            {"a", "1|a|a|||||||||||"},
            {" ", "2| ||||||||||||"},
            {"  ", "3|  ||||||||||||"},
            {" a", "2| a||a||||||||||"},
            {"a ", "2|a |a|||||||||||"},
            {"a  b", "3|a  b|a||b|||||||||"},
            {",", "1|,|,|||||||||||"},
        };
        for (String[] cut : cuts) {
            FieldScribe scribe = new FieldScribe();
            Check.enter(scribe, "x y z 1 2 3 4 5 6 7 8 9 10 11");
            Check.enter(scribe, cut[0]);
            check.same("cut of \"" + cut[0] + "\"", Check.fields(scribe), cut[1]);
        }
    }

    private void twelveFields() {
        FieldScribe scribe = new FieldScribe();
        Check.enter(scribe, "1 2 3 4 5 6 7 8 9 a b c");
        check.same("twelve", Check.fields(scribe), "12|1 2 3 4 5 6 7 8 9 a b c|1|2|3|4|5|6|7|8|9|a|b|c");
        Check.enter(scribe, "1 2 3 4 5 6 7 8 9 a b c  d ");
        check.same("the twelfth has all behind", Check.field(scribe, 12), "c  d ");
        check.same("twelve at most", scribe.fields(), 12);
        check.same("setField with separators in the twelfth", scribe.setField(11, 5), 12);
        check.same("the twelfth stays", Check.field(scribe, 0), "1 2 3 4 5 6 7 8 9 a 5 c  d ");
        Check.enter(scribe, "1 2 3 4 5 6 7 8 9 a b ");
        check.same("an empty twelfth", Check.fields(scribe), "12|1 2 3 4 5 6 7 8 9 a b |1|2|3|4|5|6|7|8|9|a|b|");
        Check.enter(scribe, "1 2 3 4 5 6 7 8 9 a b");
        check.same("eleven", scribe.fields(), 11);
    }

    private void endTakesWhatWasTyped() {
        FieldScribe scribe = new FieldScribe();
        scribe.rule(1, 1, 7);
        scribe.rule(0, 0, 0);
        scribe.act(1, 2, 0, 0, -21, 0);
        check.same("a record", Check.enter(scribe, "7 a"), 3);
        check.same("its fields", Check.fields(scribe), "2|7 a|7|a||||||||||");
        check.same("nothing typed", scribe.end(), 2);
        check.same("an empty record", Check.fields(scribe), "0|||||||||||||");
        scribe.setField(1, 7);
        check.same("what was set goes", Check.enter(scribe, "8"), 2);
        check.same("the record's numbers", Check.lines(scribe), "1;2;3;");
    }

    private void setFieldMakesTheRecordAnew() {
        FieldScribe scribe = new FieldScribe();
        check.same("field 3 of an empty record", scribe.setField(3, 42), 3);
        check.same("empty ones added", Check.fields(scribe), "3|  42|||42|||||||||");
        check.same("field 1", scribe.setField(1, -5), 3);
        check.same("a negative number", Check.fields(scribe), "3|-5  42|-5||42|||||||||");
        check.same("field 12", scribe.setField(12, 0), 12);
        check.same("up to twelve", Check.fields(scribe), "12|-5  42         0|-5||42|||||||||0");
        check.same("field 0", scribe.setField(0, 2147483647), 1);
        check.same("the record is the number", Check.fields(scribe), "1|2147483647|2147483647|||||||||||");
        check.same("field 2, the least number", scribe.setField(2, Integer.MIN_VALUE), 2);
        check.same("its text", Check.field(scribe, 2), "-2147483648");
        scribe.setSeparator(37);
        check.same("with a comma", scribe.setField(2, 100), 2);
        check.same("joined by it", Check.field(scribe, 0), "2147483647 -2147483648,100");
        check.same("setField leaves what is typed", scribe.type(1), 1);
        scribe.setField(0, 77);
        check.same("typed before", scribe.type(2), 2);
        scribe.end();
        check.same("the typed record", Check.field(scribe, 0), "12");
        for (int field : new int[] {-1, 13, Integer.MIN_VALUE, Integer.MAX_VALUE}) {
            check.refusedUnchanged(scribe, "setField(" + field + ", 1)", INDEX, () -> scribe.setField(field, 1));
        }
        int[] numbers = {0, 9, 10, -1, -10, 99, 100, 1000000000, 999999999, -999999999, -1000000000, 1020304050};
        for (int number : numbers) {
            scribe.setField(1, number);
            check.same("text of a number", Check.field(scribe, 1), Integer.toString(number));
        }
    }

    private void setFieldCutsOff() {
        FieldScribe scribe = new FieldScribe();
        Check.enter(scribe, SIXTY);
        check.same("a field behind sixty characters", scribe.setField(2, 5), 1);
        check.same("is cut off", Check.field(scribe, 0), SIXTY);
        Check.enter(scribe, SIXTY.substring(0, 55));
        check.same("a field that fits in part", scribe.setField(3, 12345678), 3);
        check.same("its beginning stays", Check.fields(scribe),
                "3|" + SIXTY.substring(0, 55) + "  123|" + SIXTY.substring(0, 55) + "||123|||||||||");
        Check.enter(scribe, "a b " + SIXTY.substring(0, 56));
        check.same("a longer first field", scribe.setField(1, 1234), 3);
        check.same("cut off behind", Check.field(scribe, 3), SIXTY.substring(0, 53));
        Check.enter(scribe, SIXTY.substring(0, 59));
        check.same("only the separators fit", scribe.setField(12, 7), 2);
        check.same("one of them", Check.field(scribe, 0), SIXTY.substring(0, 59) + " ");
    }

    private void setFieldWithADigitAsSeparator() {
        FieldScribe scribe = new FieldScribe();
        scribe.setSeparator(8);
        check.same("the number itself is cut", scribe.setField(2, 1828), 4);
        check.same("all fields", Check.fields(scribe), "4|81828||1|2|||||||||");
        check.same("a sign alone", scribe.setField(0, -8), 2);
        check.same("its fields", Check.fields(scribe), "2|-8|-|||||||||||");
        check.same("number of the sign alone", scribe.number(1), 0);
    }

    private void numbers() {
        String[][] texts = {
            {"", "0"}, {"0", "0"}, {"007", "7"}, {"12", "12"}, {"12x", "12"}, {"x12", "0"}, {",5", "0"}, {"5,6", "5"},
            {"999999999", "999999999"}, {"1234567890", "123456789"}, {"0000000012", "1"}, {"3a4", "3"},
        };
        for (String[] text : texts) {
            FieldScribe scribe = new FieldScribe();
            Check.enter(scribe, text[0] + " 4");
            check.same("number of " + text[0], scribe.number(1), Integer.parseInt(text[1]));
        }
        FieldScribe scribe = new FieldScribe();
        Check.enter(scribe, "31 7");
        check.same("number of the record", scribe.number(0), 31);
        check.same("number of a field that is not there", scribe.number(12), 0);
        scribe.setField(0, -123);
        check.same("a negative number", scribe.number(0), -123);
        scribe.setField(0, Integer.MIN_VALUE);
        check.same("nine digits of a negative number", scribe.number(1), -214748364);
        for (int field : new int[] {-1, 13, Integer.MIN_VALUE, Integer.MAX_VALUE}) {
            check.refusedUnchanged(scribe, "number(" + field + ")", INDEX, () -> scribe.number(field));
        }
    }

    private void characters() {
        FieldScribe scribe = new FieldScribe();
        Check.enter(scribe, "ab,9 z");
        String record = "ab,9 z";
        for (int place = 0; place < record.length(); place++) {
            check.same("character of the record", scribe.character(0, place), record.charAt(place));
        }
        check.same("character of a field", scribe.character(2, 0), 'z');
        int[][] refused = {
            {0, 6}, {0, -1}, {1, 4}, {2, 1}, {3, 0}, {12, 0}, {13, 0}, {-1, 0}, {0, 60}, {0, Integer.MAX_VALUE},
            {0, Integer.MIN_VALUE}, {Integer.MIN_VALUE, 0}, {Integer.MAX_VALUE, 0},
        };
        for (int[] r : refused) {
            check.refusedUnchanged(scribe, "character(" + r[0] + ", " + r[1] + ")", INDEX,
                    () -> scribe.character(r[0], r[1]));
        }
    }
}
