/** The term "Values": texts of numbers, numbers of texts, and how texts compare. */
public final class TermValuesTest {
    public static void main(String[] args) {
        Suite.run(TermValuesTest.class);
    }

    private static void written(Check check, int number, String due) {
        FieldScribe scribe = new FieldScribe();
        scribe.setField(0, number);
        check.same("the text of a number", Check.field(scribe, 0), due);
    }

    @Says("A number as a text is written in decimal digits")
    static void numbersAsTexts(Check check) {
        written(check, 0, "0");
        written(check, 9, "9");
        written(check, 10, "10");
        written(check, 99, "99");
        written(check, 100, "100");
        written(check, 999999999, "999999999");
        written(check, 1000000000, "1000000000");
        written(check, 1020304050, "1020304050");
    }

    @Says("with a \"-\" if it is below 0")
    static void numbersBelowZeroAsTexts(Check check) {
        written(check, -1, "-1");
        written(check, -9, "-9");
        written(check, -10, "-10");
        written(check, -1000000000, "-1000000000");
    }

    @Says("A number as a text is written in decimal digits, with a \"-\" if it is below 0.")
    static void numbersLeastAndGreatestAsTexts(Check check) {
        written(check, Integer.MAX_VALUE, "2147483647");
        written(check, Integer.MIN_VALUE, "-2147483648");
    }

    @Says("The number of a text is that of its longest beginning that is a \"-\" or nothing, and 1 to 9 digits")
    static void numberOfOneDigit(Check check) {
        Pair.number(check, "0", 0);
        Pair.number(check, "5", 5);
        Pair.number(check, "-5", -5);
        Pair.number(check, "-0", 0);
    }

    @Says("The number of a text is that of its longest beginning that is a \"-\" or nothing, and 1 to 9 digits")
    static void numberOfNineDigits(Check check) {
        Pair.number(check, "999999999", 999999999);
        Pair.number(check, "-999999999", -999999999);
        Pair.number(check, "000000012", 12);
    }

    @Says("The number of a text is that of its longest beginning that is a \"-\" or nothing, and 1 to 9 digits")
    static void numberOfTenDigitsIsOfTheFirstNine(Check check) {
        Pair.number(check, "1234568901", 123456890);
        Pair.number(check, "-1234568901", -123456890);
        Pair.number(check, "0000000012", 1);
        Pair.number(check, "0000000002", 0);
        FieldScribe scribe = new FieldScribe();
        scribe.setField(1, Integer.MAX_VALUE);
        check.same("of the greatest int", scribe.number(1), 214748364);
        scribe.setField(1, Integer.MIN_VALUE);
        check.same("of the least int", scribe.number(1), -214748364);
    }

    @Says("The number of a text is that of its longest beginning that is a \"-\" or nothing, and 1 to 9 digits")
    static void numberOfABeginningAlone(Check check) {
        Pair.number(check, "12x", 12);
        Pair.number(check, "3a4", 3);
        Pair.number(check, "5,6", 5);
        Pair.number(check, "5 6", 5);
        Pair.number(check, "5-6", 5);
        Pair.number(check, "5-", 5);
        Pair.number(check, "-5x", -5);
    }

    @Says("0 if there is none")
    static void numberOfTextsWithoutOne(Check check) {
        Pair.number(check, "", 0);
        Pair.number(check, "x12", 0);
        Pair.number(check, ",5", 0);
        Pair.number(check, " 5", 0);
        Pair.number(check, " -5", 0);
    }

    @Says("0 if there is none")
    static void numberOfASignWithoutDigits(Check check) {
        Pair.number(check, "-", 0);
        Pair.number(check, "-a", 0);
        Pair.number(check, "- 5", 0);
        FieldScribe twice = new FieldScribe();
        twice.setSeparator(7);
        twice.rule(0, 0, 0);
        twice.act(0, 0, 1, 2, 0, 7);
        twice.act(0, 0, 1, 4, -2, -2);
        twice.act(0, 0, 1, 4, -2, 5);
        twice.end();
        check.same("two signs", Check.field(twice, 1), "--5");
        check.same("their number", twice.number(1), 0);
    }

    @Says("A text is numeric if it is wholly such a beginning.")
    static void numericTexts(Check check) {
        Pair.sameAs(check, "5", 5, true);
        Pair.sameAs(check, "0", 0, true);
        Pair.sameAs(check, "-0", 0, true);
        Pair.sameAs(check, "-5", 5, false);
        Pair.sameAs(check, "005", 5, true);
    }

    @Says("A text is numeric if it is wholly such a beginning.")
    static void numericTextsHaveNineDigitsAtMost(Check check) {
        Pair.sameAs(check, "000000005", 5, true);
        Pair.sameAs(check, "0000000005", 5, false);
        Pair.sameAs(check, "-000000000", 0, true);
        Pair.sameAs(check, "-0000000000", 0, false);
        Pair.before(check, "5", "234568901");
        Pair.before(check, "234568901", "5x");
        Pair.before(check, "2345689011", "5");
    }

    @Says("A text is numeric if it is wholly such a beginning.")
    static void numericTextsHaveNothingBehind(Check check) {
        Pair.sameAs(check, "5x", 5, false);
        Pair.sameAs(check, "5 ", 5, false);
        Pair.sameAs(check, "5-", 5, false);
        Pair.before(check, "10x", "9");
        Pair.before(check, "10", "9x");
    }

    @Says("A text is numeric if it is wholly such a beginning.")
    static void numericIsNeitherAnEmptyTextNorASignAlone(Check check) {
        Pair.sameAs(check, "", 0, false);
        Pair.sameAs(check, "-", 0, false);
        Pair.before(check, "", "-5");
        Pair.before(check, "", "0");
        Pair.before(check, "-", "-5");
        Pair.before(check, "-", "0");
    }

    @Says("Two texts compare by their numbers if both are numeric")
    static void comparingByNumbers(Check check) {
        Pair.before(check, "9", "10");
        Pair.before(check, "3", "04");
        Pair.before(check, "0099", "100");
        Pair.before(check, "-10", "-9");
        Pair.before(check, "-1", "0");
        Pair.before(check, "-999999999", "999999999");
        Pair.equal(check, "5", "005");
        Pair.equal(check, "-0", "0");
        Pair.equal(check, "-05", "-5");
        Pair.equal(check, "12", "12");
    }

    @Says("otherwise character by character")
    static void comparingByCharactersIfOneIsNotNumeric(Check check) {
        Pair.before(check, "10x", "9");
        Pair.before(check, "10", "9x");
        Pair.before(check, "-1x", "-2");
        Pair.before(check, "005", "5x");
        Pair.before(check, "005x", "5");
    }

    @Says("otherwise character by character")
    static void comparingByTheFirstCharacterThatDiffers(Check check) {
        Pair.before(check, "abc", "abd");
        Pair.before(check, "abz", "bba");
        Pair.before(check, "az", "b");
        Pair.equal(check, "abc", "abc");
        Pair.equal(check, "12x", "12x");
    }

    @Says("\"-\" is before the comma")
    static void comparingASignAndAComma(Check check) {
        Pair.before(check, "-", ",");
        Pair.before(check, "a-", "a,");
        Pair.before(check, "-z", ",a");
    }

    @Says("that before digits")
    static void comparingACommaAndDigits(Check check) {
        Pair.before(check, ",", "0");
        Pair.before(check, ",", "9");
        Pair.before(check, "a,", "a0");
        Pair.before(check, "1,9", "10a");
    }

    @Says("that before digits")
    static void comparingASignAndDigits(Check check) {
        Pair.before(check, "a-", "a0");
        Pair.before(check, "5-", "50");
        Pair.before(check, "-9x", "0");
    }

    @Says("digits are before letters")
    static void comparingDigitsAndLetters(Check check) {
        Pair.before(check, "9", "a");
        Pair.before(check, "x0", "xa");
        Pair.before(check, "0z", "z0");
    }

    @Says("otherwise character by character")
    static void comparingDigitsAmongThemselvesAndLettersToo(Check check) {
        Pair.before(check, "x0", "x1");
        Pair.before(check, "x8", "x9");
        Pair.before(check, "a", "b");
        Pair.before(check, "y", "z");
    }

    @Says("a blank is before all")
    static void comparingABlank(Check check) {
        Pair.before(check, " ", "-");
        Pair.before(check, " ", ",");
        Pair.before(check, " ", "0");
        Pair.before(check, " ", "a");
        Pair.before(check, "a z", "a-");
        Pair.before(check, "1 9", "1,0");
    }

    @Says("a beginning of a text is before it")
    static void comparingABeginning(Check check) {
        Pair.before(check, "a", "ab");
        Pair.before(check, "a", "a ");
        Pair.before(check, "a", "a-");
        Pair.before(check, "5", "5 ");
        Pair.before(check, "", " ");
        Pair.before(check, "", "-");
        Pair.before(check, "", "a");
        Pair.equal(check, "", "");
    }

    private static void rising(Check check, String... texts) {
        for (int first = 0; first < texts.length; first++) {
            Pair.equal(check, texts[first], texts[first]);
            for (int second = first + 1; second < texts.length; second++) {
                Pair.before(check, texts[first], texts[second]);
            }
        }
    }

    @Says("otherwise character by character")
    static void comparingEachOfARisingRowOfTexts(Check check) {
        rising(check, "", " ", " 9", " a", "-", "- ", "-a", ",", ",1", ",a", "1 2", "1234568901", "12x", "2a", "3,", "9,",
                "a", "a ", "a-", "a,", "a1", "aa", "b");
    }

    @Says("Two texts compare by their numbers if both are numeric")
    static void comparingEachOfARisingRowOfNumbers(Check check) {
        rising(check, "-999999999", "-10", "-9", "-05", "-4", "-0", "3", "04", "5", "10", "0099", "100", "999999999");
    }

    @Says("Values are texts.")
    static void valuesKeepTheirText(Check check) {
        FieldScribe scribe = Check.withAction(2, 0, 0, -2, 0);
        Check.enter(scribe, "007");
        Check.enter(scribe, "0000000000");
        Check.enter(scribe, "12x");
        check.same("a field's own text, not its number's", Check.lines(scribe), "007;0000000000;12x;");
    }
}
