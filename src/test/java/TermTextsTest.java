/** The terms "Characters" and "A text": codes, and what is cut off behind sixty characters. */
public final class TermTextsTest {
    private static final String CODES = "0123456789abcdefghijklmnopqrstuvwxyz ,";
    private static final String THIRTY = "abcdefghijklmnopqrstuvwxyzabcd";

    public static void main(String[] args) {
        Suite.run(TermTextsTest.class);
    }

    @Says("An object is used for at most 512 calls after it has been made")
    static void useOf512Calls(Check check) {
        FieldScribe scribe = new FieldScribe();
        for (int rule = 0; rule < 8; rule++) {
            scribe.rule(0, 0, 0);
            for (int action = 0; action < 6; action++) {
                scribe.act(rule, 2, 0, 4, -21, -20);
            }
        }
        int calls = 8 + 48;
        for (; calls < 510; calls++) {
            check.same("call " + (calls + 1), scribe.end(), 255);
        }
        check.same("call 511: the last of 454 records", scribe.line(39, 2), '4');
        check.same("call 512", scribe.lines(), 40);
    }

    @Says("An object is used for at most 512 calls after it has been made")
    static void useOf512RefusedCalls(Check check) {
        FieldScribe scribe = new FieldScribe();
        for (int call = 1; call <= 510; call++) {
            check.refused("call " + call, Check.INDEX, () -> scribe.act(0, 0, 0, 0, 0, 0));
        }
        check.same("call 511", scribe.rule(0, 0, 0), 0);
        check.same("call 512", scribe.act(0, 0, 0, 0, 0, 0), 1);
    }

    @Says("0 to 9 the digits, 10 to 35 the letters \"a\" to \"z\"")
    static void charactersDigitsAndLettersAtTheirEdges(Check check) {
        FieldScribe scribe = new FieldScribe();
        for (int code : new int[] {0, 9, 10, 35}) {
            scribe.type(code);
        }
        scribe.end();
        check.same("the codes 0, 9, 10, 35", Check.field(scribe, 0), "09az");
    }

    @Says("36 a blank, 37 a comma")
    static void charactersBlankAndComma(Check check) {
        FieldScribe scribe = new FieldScribe();
        scribe.type(36);
        scribe.type(37);
        scribe.end();
        check.same("the code 36", scribe.character(0, 0), ' ');
        check.same("the code 37", scribe.character(0, 1), ',');
    }

    @Says("Characters are told by codes")
    static void charactersOfAllCodes(Check check) {
        FieldScribe scribe = new FieldScribe();
        for (int code = 0; code <= 37; code++) {
            scribe.type(code);
        }
        scribe.end();
        for (int code = 0; code <= 37; code++) {
            check.same("the code " + code, scribe.character(0, code), CODES.charAt(code));
        }
    }

    @Says("A text has at most 60 characters")
    static void textsOfSixtyAreWhole(Check check) {
        for (int stack = 0; stack < 2; stack++) {
            FieldScribe scribe = Check.withAction(2, 0, 4, -2, -3);
            scribe.useStack(stack == 1);
            Check.enter(scribe, THIRTY + " " + THIRTY.substring(1));
            Check.enter(scribe, THIRTY.substring(1) + " " + THIRTY);
            check.same("fifty-nine", Check.line(scribe, 0), THIRTY + THIRTY.substring(1));
            check.same("fifty-nine the other way", Check.line(scribe, 1), THIRTY.substring(1) + THIRTY);
            FieldScribe twice = Check.withAction(2, 0, 4, -1, -1);
            twice.useStack(stack == 1);
            Check.enter(twice, THIRTY);
            check.same("sixty", Check.line(twice, 0), THIRTY + THIRTY);
        }
    }

    @Says("what would be more is cut off behind")
    static void textsOfSixtyOneAreCutOffBehind(Check check) {
        for (int stack = 0; stack < 2; stack++) {
            FieldScribe scribe = Check.withAction(2, 0, 4, -1, 98);
            scribe.useStack(stack == 1);
            Check.enter(scribe, THIRTY + THIRTY.substring(2));
            Check.enter(scribe, THIRTY + THIRTY.substring(1));
            Check.enter(scribe, THIRTY + THIRTY);
            check.same("fifty-eight and two", Check.line(scribe, 0), THIRTY + THIRTY.substring(2) + "98");
            check.same("fifty-nine and two", Check.line(scribe, 1), THIRTY + THIRTY.substring(1) + "9");
            check.same("sixty and two", Check.line(scribe, 2), THIRTY + THIRTY);
            check.same("cutting off is no fault", scribe.faults(), 0);
        }
    }

    @Says("what would be more is cut off behind")
    static void textsOfTwiceSixtyAreCutOffBehind(Check check) {
        String full = "1234567890 " + THIRTY + " 1234567890abcdefgh";
        for (int stack = 0; stack < 2; stack++) {
            FieldScribe scribe = Check.withAction(2, 0, 4, -1, -1);
            scribe.act(0, 2, 0, 4, -1, -3);
            scribe.act(0, 2, 0, 4, -3, -1);
            scribe.useStack(stack == 1);
            Check.enter(scribe, full);
            check.same("a full text behind itself", Check.line(scribe, 0), full);
            check.same("thirty behind a full one", Check.line(scribe, 1), full);
            check.same("a full one behind thirty", Check.line(scribe, 2), THIRTY + full.substring(0, 30));
        }
    }

    @Says("what would be more is cut off behind")
    static void textsCutOffInTheRecord(Check check) {
        FieldScribe scribe = Check.withAction(0, 0, 4, -1, 1234);
        Check.enter(scribe, THIRTY + THIRTY.substring(2));
        check.same("two of four digits", Check.fields(scribe),
                "1|" + THIRTY + THIRTY.substring(2) + "12|" + THIRTY + THIRTY.substring(2) + "12|||||||||||");
    }

    @Says("what would be more is cut off behind")
    static void textsCutOffInARecordMadeAnew(Check check) {
        FieldScribe scribe = new FieldScribe();
        String rest = THIRTY.substring(3);
        Check.enter(scribe, THIRTY + rest);
        check.same("a separator and two of three digits", scribe.setField(2, 567), 2);
        check.same("the record", Check.field(scribe, 0), THIRTY + rest + " 56");
        check.same("the field is cut anew from it", Check.field(scribe, 2), "56");
        check.same("sixty characters", scribe.character(0, 59), '6');
        check.refused("no sixty-first", Check.INDEX, () -> scribe.character(0, 60));
    }

    @Says("what would be more is cut off behind")
    static void textsCutOffWithTheirSeparators(Check check) {
        FieldScribe full = new FieldScribe();
        Check.enter(full, THIRTY + THIRTY);
        check.same("a field behind sixty characters", full.setField(2, 5), 1);
        check.same("not even its separator is left", Check.field(full, 0), THIRTY + THIRTY);
        FieldScribe nearly = new FieldScribe();
        Check.enter(nearly, THIRTY + THIRTY.substring(1));
        check.same("a field behind fifty-nine characters", nearly.setField(12, 5), 2);
        check.same("one separator is left", Check.field(nearly, 0), THIRTY + THIRTY.substring(1) + " ");
        FieldScribe partly = new FieldScribe();
        Check.enter(partly, THIRTY + THIRTY.substring(2));
        check.same("a field behind fifty-eight characters", partly.setField(2, 56), 2);
        check.same("its first digit is left", Check.field(partly, 2), "5");
    }

    @Says("what would be more is cut off behind")
    static void textsCutOffFieldsBehindALongerOne(Check check) {
        FieldScribe scribe = new FieldScribe();
        Check.enter(scribe, "1 2 " + THIRTY + " " + THIRTY.substring(5));
        check.same("sixty characters", scribe.character(0, 59), 'd');
        check.same("a longer first field", scribe.setField(1, -12), 4);
        check.same("the last field loses two characters", Check.field(scribe, 4), THIRTY.substring(5, 28));
        check.same("the others none", Check.field(scribe, 3), THIRTY);
    }

    @Says("A text has at most 60 characters")
    static void textsOfSixtyAsKeys(Check check) {
        String nearly = THIRTY + THIRTY.substring(0, 29);
        FieldScribe scribe = Check.withAction(1, 0, 0, 1, 0);
        Check.enter(scribe, THIRTY + THIRTY);
        Check.enter(scribe, nearly + "x");
        Check.enter(scribe, nearly);
        check.same("keys that differ in the sixtieth character", Check.rows(scribe),
                THIRTY + THIRTY + "=1;" + nearly + "x=1;" + nearly + "=1;");
    }
}
