/** Promise 7 (write), and what the document's terms say of a pattern's parts and of writing; RoundingTest has the modes. */
public final class WriteTest {
    private static final Check check = new Check();
    private static final long MAX = Long.MAX_VALUE, MIN = Long.MIN_VALUE;
    private static final int UP = 0, DOWN = 1, HALF_UP = 4, HALF_EVEN = 6, EXACT = 7;

    public static void main(String[] args) {
        firstSub();
        percentMeant();
        secondSub();
        noSecondSub();
        integerCounts();
        fractionCounts();
        exponentCounts();
        groupCounts();
        signOfANumber();
        timesAHundred();
        roundedToPlaces();
        integerDigits();
        fractionDigits();
        neitherDigits();
        lastGroup();
        moreGroups();
        significantDigits();
        greatestPower();
        exponentWithoutHashes();
        exponentWithHashes();
        zeroWithExponent();
        digitsWithExponent();
        signOfExponent();
        digitsOfExponent();
        orderOfParts();
        symbolsWhenWritten();
        becomesTheText();
        oneAfterAnother();
        longTexts();
        refused();
        inexact();
        nothingChanges();
        check.finish();
    }

    private static void writes(String pattern, long u, int s, int mode, String want) {
        DecimalPatterns x = Use.withPattern(pattern);
        check.same(pattern + " of " + u + " / 10^" + s + " in mode " + mode, Use.written(x, u, s, mode), want);
    }

    private static void exactly(String pattern, long u, int s, String want) {
        writes(pattern, u, s, EXACT, want);
    }

    private static void firstSub() {
        check.sentence("The first sub is for numbers that are not negative, its number is the pattern's;");
        exactly("a0b;c0d", 1, 0, "a1b");
        exactly("a0b;c0d", 0, 0, "a0b");
        exactly("a0b;c0d", 0, 18, "a0b");
        exactly("a0b;c0d", MAX, 0, "a9223372036854775807b");
        exactly("0.00;0E0", 12345, 1, "1234.50");
        exactly("0.00;0E0", -12345, 1, "1234.50");
        exactly("#,##0;0.0", -12345, 0, "12,345");
        exactly("0E0;#,##0", -1000, 0, "1E3");
    }

    private static void percentMeant() {
        check.sentence("percent is MEANT if its affixes have the PERCENT symbol (not between ').");
        exactly("0%", 5, 1, "50%");
        exactly("%0", 5, 1, "%50");
        exactly("a%b0", 5, 1, "a%b50");
        exactly("%0%", 5, 1, "%50%");
        exactly("%%0%%", 5, 1, "%%50%%");
        exactly("0%;0", -5, 1, "50");
        exactly("%0;0", -5, 1, "50");
        exactly("'%'0", 5, 0, "%5");
        exactly("0'%'", 5, 0, "5%");
        exactly("0'a%b'", 5, 0, "5a%b");
        exactly("0'%'%", 5, 0, "500%%");
        exactly("'%'0''%''", 5, 0, "%500'%'");
        exactly("0;0%", 5, 0, "5");
        exactly("0;0%", -5, 0, "5%");
        exactly("'%'0;%0%", -5, 0, "%5%");
    }

    private static void secondSub() {
        check.sentence("The second sub gives its affixes to negative numbers, its number is of no use;");
        exactly("a0b;c0d", -1, 0, "c1d");
        exactly("a0b;c0", -1, 0, "c1");
        exactly("a0b;0d", -1, 0, "1d");
        exactly("a0b;0", -1, 0, "1");
        exactly("0;-0", -1, 0, "-1");
        exactly("0;0-", MIN, 0, "9223372036854775808-");
        exactly("a0b;00.00", -1, 0, "1");
        exactly("0.0;#,##0", -12345, 1, "1234.5");
        exactly("#;0000E+0", -1, 0, "1");
        exactly("0.0;#", -15, 1, "1.5");
        writes("a0b;c0d", -1, 1, DOWN, "c0d");
    }

    private static void noSecondSub() {
        check.sentence("without a second sub negative numbers have the affixes of the first, and the MINUS symbol in front of all.");
        exactly("0", -1, 0, "-1");
        exactly("a0b", -1, 0, "-a1b");
        exactly("-0", -1, 0, "--1");
        exactly("0-", -1, 0, "-1-");
        exactly("%0", -1, 2, "-%1");
        exactly("'-'0", -1, 0, "--1");
        exactly("0", MIN, 0, "-9223372036854775808");
        writes("a0b", -1, 1, DOWN, "-a0b");
    }

    private static void integerCounts() {
        check.sentence("For the pattern's number: H and Z are how many # and 0 integer has (0 if it is missing),");
        exactly("###", 7, 0, "7");
        exactly("##0", 7, 0, "7");
        exactly("#00", 7, 0, "07");
        exactly("000", 7, 0, "007");
        exactly("#,0,00", 7, 0, "0,07");
        exactly(".0", 0, 0, ".0");
        exactly(".0", 7, 0, "7.0");
        exactly("##00E0", 7, 0, "7E0");
        exactly("##00E0", 12000, 0, "1.2E4");
        exactly("000E0", 7, 0, "700E-2");
    }

    private static void fractionCounts() {
        check.sentence("F how many # and 0 the fraction has, and D how many 0 (0 if it is missing),");
        writes("0.00##", 123456, 5, DOWN, "1.2345");
        exactly("0.00##", 1, 0, "1.00");
        exactly("0.####", 1, 0, "1");
        exactly("0.0000", 1, 0, "1.0000");
        exactly(".##", 1, 0, "1");
        writes("0", 19, 1, DOWN, "1");
        writes("0.0#E0", 12345, 0, DOWN, "1.23E4");
        exactly("0.0#E0", 1, 0, "1.0E0");
        writes("0E0", 19, 0, DOWN, "1E1");
    }

    private static void exponentCounts() {
        check.sentence("X how many zeros stand behind E.");
        exactly("0E0", 1, 0, "1E0");
        exactly("0E00", 1, 0, "1E00");
        exactly("0E+000", 1, 0, "1E+000");
        exactly("0E" + "0".repeat(38), 1, 0, "1E" + "0".repeat(38));
    }

    private static void groupCounts() {
        check.sentence("G is how many # and 0 stand behind the last comma, G2 how many between the last two commas, or G if there is one comma.");
        exactly("#,#", 12345, 0, "1,2,3,4,5");
        exactly("#,##", 12345, 0, "1,23,45");
        exactly("####,##", 12345, 0, "1,23,45");
        exactly("#,##,###", 123456789, 0, "12,34,56,789");
        exactly("#,###,##", 123456789, 0, "1,234,567,89");
        exactly("#,#,###,##,#", 123456789, 0, "12,34,56,78,9");
        exactly("##,#,####", 123456789, 0, "1,2,3,4,5,6789");
        exactly("#,#0,000", 123456789, 0, "12,34,56,789");
        exactly("0,00", 12345, 0, "1,23,45");
        exactly("#,##0.0000", 1234567, 0, "1,234,567.0000");
    }

    private static void signOfANumber() {
        check.sentence("WRITING a number v (a sign, + or -, and a size; for v = u / 10^s the sign is - if u is less than 0) in a MODE.");
        exactly("0", 0, 0, "0");
        exactly("0", 1, 0, "1");
        exactly("0", -1, 0, "-1");
        exactly("0.0;(0)", 0, 18, "0.0");
        exactly("0." + "0".repeat(18), -1, 18, "-0.000000000000000001");
        exactly("0." + "0".repeat(18), MIN, 18, "-9.223372036854775808");
        exactly("0." + "0".repeat(18), MAX, 18, "9.223372036854775807");
        exactly("0.0", MIN, 1, "-922337203685477580.8");
    }

    private static void timesAHundred() {
        check.sentence("Let w be the size of v, times 100 if percent is meant.");
        exactly("0%", 0, 0, "0%");
        exactly("0%", 1, 2, "1%");
        exactly("0.0%", -1, 3, "-0.1%");
        exactly("0%", MIN, 0, "-922337203685477580800%");
        exactly("0%", MAX, 0, "922337203685477580700%");
        exactly("#,##0%", MAX, 0, "922,337,203,685,477,580,700%");
        exactly("." + "0".repeat(16) + "%", 1, 18, "." + "0".repeat(15) + "1%");
        exactly("0%", 375, 5, "INEXACT");
        writes("0.0E0%", 375, 5, HALF_EVEN, "3.8E-1%");
        exactly("0E0%", 1, 18, "1E-16%");
        exactly("0E0%", 9000000000000000000L, 0, "9E20%");
    }

    private static void roundedToPlaces() {
        check.sentence("Without E: w is rounded to a multiple of 10^-F.");
        writes("0", 19, 1, UP, "2");
        writes("0.#", 119, 2, UP, "1.2");
        writes("0.0##", 11111, 4, UP, "1.112");
        writes(".#", 11, 2, UP, ".2");
        writes("0." + "#".repeat(17), 11, 18, UP, "0.00000000000000002");
        writes("0." + "#".repeat(18), 11, 18, UP, "0.000000000000000011");
        writes("0." + "#".repeat(38), 11, 18, UP, "0.000000000000000011");
        writes("0." + "0".repeat(38), 1, 18, EXACT, "0." + "0".repeat(17) + "1" + "0".repeat(20));
        writes("0.#", 999, 2, UP, "10");
        writes("#.#", 99, 2, UP, "1");
    }

    private static void integerDigits() {
        check.sentence("The integer digits are those of the whole part without zeros in front, but with zeros in front if there are fewer than Z.");
        exactly("#.0", 5, 1, ".5");
        exactly("#", 5, 0, "5");
        exactly("0.0", 5, 1, "0.5");
        exactly("000", 99, 0, "099");
        exactly("000", 100, 0, "100");
        exactly("000", 1000, 0, "1000");
        exactly("000", 0, 0, "000");
        exactly("#####", 12, 0, "12");
        exactly("#", 12345, 0, "12345");
        exactly("##00", 7, 0, "07");
        exactly("0".repeat(40), 7, 0, "0".repeat(39) + "7");
        exactly("0".repeat(40), MIN, 0, "-" + "0".repeat(21) + "9223372036854775808");
        exactly("0".repeat(19), MAX, 0, "9223372036854775807");
        exactly("0".repeat(20), MAX, 0, "09223372036854775807");
    }

    private static void fractionDigits() {
        check.sentence("The fraction digits are those behind the point without zeros at the end, but at least D.");
        exactly("0.0##", 1, 0, "1.0");
        exactly("0.0##", 12, 1, "1.2");
        exactly("0.0##", 12, 2, "0.12");
        exactly("0.0##", 1001, 3, "1.001");
        exactly("0.0##", 1100, 3, "1.1");
        exactly("0.0##", 1010, 3, "1.01");
        exactly("0.###", 100, 2, "1");
        exactly("0.00", 10, 2, "0.10");
        exactly(".00#", 12, 1, "1.20");
        writes(".00#", 12345, 4, HALF_EVEN, "1.234");
        writes("0.0##", 19999, 4, UP, "2.0");
        writes("0.###", 19999, 4, UP, "2");
        exactly("0." + "#".repeat(38), 1, 18, "0." + "0".repeat(17) + "1");
    }

    private static void neitherDigits() {
        check.sentence("If there are neither integer nor fraction digits, there is one integer digit, 0.");
        exactly("#", 0, 0, "0");
        exactly("###", 0, 0, "0");
        exactly("#,###", 0, 0, "0");
        exactly("#.#", 0, 0, "0");
        exactly(".#", 0, 0, "0");
        exactly("a#b", 0, 18, "a0b");
        exactly("#%", 0, 0, "0%");
        writes("#.#", -4, 2, DOWN, "-0");
        writes("#", 4, 1, DOWN, "0");
        exactly("#.0", 0, 0, ".0");
        exactly(".0", 0, 0, ".0");
        exactly("#.#", 1, 1, ".1");
        exactly("#.#", 1, 0, "1");
    }

    private static void grouped(int lead, String pattern, long u, String want) {
        DecimalPatterns x = Use.withPattern(pattern);
        x.groupFrom(lead);
        check.same(pattern + " of " + u + " with L = " + lead, Use.written(x, u, 0, EXACT), want);
    }

    private static void lastGroup() {
        check.sentence("If there are commas and at least G + L integer digits (L: see groupFrom), GROUP stands before the last G of them,");
        exactly("####0", 12345, 0, "12345");
        exactly("#,##0", 999, 0, "999");
        exactly("#,##0", 1000, 0, "1,000");
        exactly("#,##0", -999, 0, "-999");
        exactly("#,##0.0", 1000, 0, "1,000.0");
        exactly("#,##0", 0, 0, "0");
        exactly("#,###.#", 5, 1, ".5");
        grouped(2, "#,##0", 9999, "9999");
        grouped(2, "#,##0", 10000, "10,000");
        grouped(9, "#,#", 123456789, "123456789");
        grouped(9, "#,#", 1234567890, "1,2,3,4,5,6,7,8,9,0");
        grouped(9, "#,##0", 99999999999L, "99999999999");
        grouped(9, "#,##0", 100000000000L, "100,000,000,000");
        grouped(1, "0,000", 1, "0,001");
        grouped(2, "0,000", 1, "0001");
        grouped(2, "00,000", 1, "00,001");
        grouped(2, "0,00", 1, "001");
        grouped(1, "#," + "#".repeat(38), MAX, "9223372036854775807");
        grouped(1, "#," + "#".repeat(18), MAX, "9,223372036854775807");
        grouped(1, "#," + "#".repeat(19), MAX, "9223372036854775807");
    }

    private static void moreGroups() {
        check.sentence("and before every G2 more that have a digit before them.");
        exactly("#,##0", 123456, 0, "123,456");
        exactly("#,##0", 1234567, 0, "1,234,567");
        exactly("#,##0", -123456, 0, "-123,456");
        exactly("a#,##0", 123456, 0, "a123,456");
        exactly("#,##,##0", 12345, 0, "12,345");
        exactly("#,##,##0", 123456, 0, "1,23,456");
        exactly("#,##,##0", 1234567, 0, "12,34,567");
        exactly("#,###,#", 1234, 0, "123,4");
        exactly("#,###,#", 12345, 0, "1,234,5");
        exactly("000,0", 0, 0, "0,0,0,0");
        exactly("0,00,0", 0, 0, "0,00,0");
        exactly("#,#", MAX, 0, "9,2,2,3,3,7,2,0,3,6,8,5,4,7,7,5,8,0,7");
        exactly("#," + "#".repeat(20) + ",#", MAX, 0, "922337203685477580,7");
        exactly("#," + "#".repeat(18) + ",#", MAX, 0, "922337203685477580,7");
        exactly("#," + "#".repeat(17) + ",#", MAX, 0, "9,22337203685477580,7");
        grouped(3, "#,#,##", 1234, "1234");
        grouped(3, "#,#,##", 12345, "1,2,3,45");
    }

    private static void significantDigits() {
        check.sentence("With E: if w is not 0 it is rounded to Z + F significant digits (to a multiple of 10^(t - Z - F + 1), where 10^t is the greatest power of ten not above w);");
        writes("0E0", 19, 0, DOWN, "1E1");
        writes("0E0", 10, 0, EXACT, "1E1");
        writes("0E0", 99, 1, DOWN, "9E0");
        writes("0.0E0", 199, 0, DOWN, "1.9E2");
        writes("0.#E0", 199, 0, DOWN, "1.9E2");
        writes("00E0", 199, 0, DOWN, "19E1");
        writes("00.0#E0", 123456, 0, DOWN, "12.34E4");
        writes("#0E0", 199, 0, DOWN, "1E2");
        writes("##0.##E0", 12345, 0, HALF_UP, "12.3E3");
        writes("##0.##E0", 123456, 0, HALF_UP, "123E3");
        writes("##0.##E0", 1234567, 0, HALF_UP, "1.23E6");
        writes("#0.0E0", 1999, 0, DOWN, "19.0E2");
        exactly("0.0E0", 12345, 0, "INEXACT");
        exactly("0." + "0".repeat(18) + "E0", MIN, 0, "-9.223372036854775808E18");
        exactly("0." + "0".repeat(17) + "E0", MIN, 0, "INEXACT");
        exactly("0." + "0".repeat(35) + "E0", MAX, 0, "9.223372036854775807" + "0".repeat(17) + "E18");
        writes("0E0", 1, 18, UP, "1E-18");
        writes("0E0", 11, 18, UP, "2E-17");
    }

    private static void greatestPower() {
        check.sentence("let r be what comes of it, and 10^q the greatest power of ten not above r.");
        writes("0E0", 95, 0, HALF_UP, "1E2");
        writes("0E0", 94, 0, HALF_UP, "9E1");
        writes("0.00E0", 99951, 1, UP, "1.00E4");
        writes("00E0", 996, 0, HALF_UP, "10E2");
        writes("##0E0", 999, 0, HALF_UP, "1E3");
        writes("##0E0", 9996, 1, HALF_UP, "1E3");
        writes("#0.0E0", 99951, 2, HALF_UP, "10.0E2");
        writes("##0.0E0", 996, 3, HALF_UP, "1.0E0");
        writes("0E0", 95, 18, HALF_UP, "1E-16");
        writes("0E0%", MAX, 0, UP, "1E21%");
    }

    private static void exponentWithoutHashes() {
        check.sentence("If H is 0, the exponent e is q - Z + 1;");
        exactly("0E0", 1, 0, "1E0");
        exactly("0E0", 10, 0, "1E1");
        exactly("0E0", 1, 1, "1E-1");
        exactly("0E0", 1, 18, "1E-18");
        exactly("0E0", 1000000000000000000L, 0, "1E18");
        exactly("00E0", 10, 0, "10E0");
        exactly("000E0", 10, 0, "100E-1");
        exactly("000E0", 5, 0, "500E-2");
        writes("000E0", 12345, 0, UP, "124E2");
        exactly("0".repeat(38) + "E0", 1, 18, "1" + "0".repeat(37) + "E-55");
        exactly("0".repeat(38) + "E0", 1, 0, "1" + "0".repeat(37) + "E-37");
    }

    private static void exponentWithHashes() {
        check.sentence("else it is the greatest multiple of H + Z that is not above q.");
        exactly("##0E0", 1, 0, "1E0");
        exactly("##0E0", 100, 0, "100E0");
        exactly("##0E0", 1000, 0, "1E3");
        exactly("##0E0", 100000, 0, "100E3");
        exactly("##0E0", 1000000, 0, "1E6");
        exactly("##0E0", 1, 1, "100E-3");
        exactly("##0E0", 1, 3, "1E-3");
        exactly("##0E0", 1, 4, "100E-6");
        exactly("##0E0", 1, 18, "1E-18");
        exactly("##0E0", 1, 17, "10E-18");
        exactly("#0E0", 9, 0, "9E0");
        exactly("#0E0", 10, 0, "10E0");
        exactly("#0E0", 100, 0, "1E2");
        exactly("#0E0", 1, 1, "10E-2");
        exactly("##00.#E0", 12300, 0, "1.23E4");
        exactly("#00E0", 1, 1, "100E-3");
        exactly("#".repeat(36) + "0E0", 1, 18, "1" + "0".repeat(19) + "E-37");
        exactly("#".repeat(36) + "0E0", 1000000000000000000L, 0, "1000000000000000000E0");
    }

    private static void zeroWithExponent() {
        check.sentence("If w is 0, r and e are 0.");
        for (int mode = UP; mode <= EXACT; mode++) {
            writes("0E0", 0, 0, mode, "0E0");
            writes("000.00E+00", 0, 18, mode, "000.00E+00");
            writes("#00.0#E0", 0, 0, mode, "0.0E0");
            writes("0.#E0%", 0, 5, mode, "0E0%");
        }
    }

    private static void digitsWithExponent() {
        check.sentence("Integer and fraction digits are those of r / 10^e as above, but with zeros in front only if there are fewer than Z where H is 0, or fewer than 1 where H is above 0; no GROUP.");
        exactly("000E0", 0, 0, "000E0");
        exactly("#00E0", 0, 0, "0E0");
        exactly("#000E0", 1, 0, "1E0");
        exactly("#000E0", 12, 0, "12E0");
        exactly("##0.00E0", 1, 0, "1.00E0");
        exactly("##0.00E0", 12, 0, "12.00E0");
        exactly("##0.##E0", 12, 0, "12E0");
        exactly("0.###E0", 12, 0, "1.2E1");
        exactly("0.0##E0", 1, 0, "1.0E0");
        writes("0.###E0", 12345, 0, DOWN, "1.234E4");
        exactly("#000E0", 12300000, 0, "1230E4");
        exactly("#000E0", 123000, 0, "12.3E4");
        exactly("#########0E0", 1000000000, 0, "1000000000E0");
        DecimalPatterns x = Use.withPattern("#,#");
        x.groupFrom(1);
        Use.applied(x, "000E0");
        check.same("no GROUP after a pattern with commas", Use.written(x, 123, 0, EXACT), "123E0");
    }

    private static void signOfExponent() {
        check.sentence("Behind them: EXPONENT, then MINUS if e is negative, or + if it is not and the pattern has +,");
        exactly("0E0", 10, 0, "1E1");
        exactly("0E0", 1, 0, "1E0");
        exactly("0E0", 1, 1, "1E-1");
        exactly("0E+0", 10, 0, "1E+1");
        exactly("0E+0", 1, 0, "1E+0");
        exactly("0E+0", 0, 0, "0E+0");
        exactly("0E+0", 1, 1, "1E-1");
        exactly("0E+0", -1, 0, "-1E+0");
        exactly("0E0;0E+0", -10, 0, "1E1");
        exactly("0E+0;0E0", -10, 0, "1E+1");
        DecimalPatterns x = Use.withPattern("0E+0");
        check.same("EXPONENT and MINUS", x.symbol(4, '^') && x.symbol(2, '~'), true);
        check.same("by the symbols", Use.written(x, -1, 1, EXACT), "~1^~1");
        check.same("the + is always +", Use.written(x, 10, 0, EXACT), "1^+1");
    }

    private static void digitsOfExponent() {
        check.sentence("and the digits of e without sign, with zeros in front if there are fewer than X.");
        exactly("0E0", 1, 0, "1E0");
        exactly("0E0", 1000000000, 0, "1E9");
        exactly("0E0", 10000000000L, 0, "1E10");
        exactly("0E00", 1, 0, "1E00");
        exactly("0E00", 1000000000, 0, "1E09");
        exactly("0E00", 10000000000L, 0, "1E10");
        exactly("0E00", 1, 9, "1E-09");
        exactly("0E00", 1, 10, "1E-10");
        exactly("0E000", 1, 12, "1E-012");
        exactly("0E" + "0".repeat(38), 1, 18, "1E-" + "0".repeat(36) + "18");
        DecimalPatterns x = Use.withPattern("0E000");
        x.symbol(5, 'a');
        check.same("by the digits", Use.written(x, 1, 12, EXACT), "bE-abc");
    }

    private static void orderOfParts() {
        check.sentence("The text is the prefix (the affix before the number) for the sign, the integer digits, DECIMAL if there are fraction digits, and these, the exponent, the suffix.");
        exactly("a0.0E+0b;c0d", 12, 0, "a1.2E+1b");
        exactly("a0.0E+0b;c0d", -12, 0, "c1.2E+1d");
        exactly("a0.#b", 12, 1, "a1.2b");
        exactly("a0.#b", 1, 0, "a1b");
        exactly("a.0b", 5, 1, "a.5b");
        exactly("0.#E0", 10, 0, "1E1");
        exactly("0E0+", 1, 0, "1E0+");
        exactly("+0+;-0+", 1, 0, "+1+");
    }

    private static void symbolsWhenWritten() {
        check.sentence("Symbols are taken as they are when it is written.");
        DecimalPatterns x = new DecimalPatterns();
        x.symbol(2, 'm');
        x.symbol(3, 'p');
        Use.applied(x, "-%#,##0.0");
        check.same("as they are at apply", Use.written(x, -12345, 1, EXACT), "mmp123,450.0");
        x.symbol(2, '~');
        x.symbol(3, '|');
        x.symbol(1, '_');
        x.symbol(0, ';');
        x.symbol(5, 'a');
        check.same("changed after apply", Use.written(x, -12345, 1, EXACT), "~~|bcd_efa;a");
        x.symbol(5, '0');
        check.same("changed back", Use.written(x, -12345, 1, EXACT), "~~|123_450;0");
    }

    private static void becomesTheText() {
        check.sentence("Writes u / 10^s by the pattern in a mode; this becomes the text, and the answer is how many characters it has.");
        DecimalPatterns x = Use.withPattern("0.0#");
        Use.typed(x, "1".repeat(100));
        check.same("a shorter text", x.write(-15, 1, EXACT), 4);
        check.same("replaces the longer", Use.text(x), "-1.5");
        check.same("a longer text", x.write(12345, 2, EXACT), 6);
        check.same("replaces the shorter", Use.text(x), "123.45");
        for (int s = 0; s <= 18; s++) {
            check.same("scale " + s, x.write(0, s, EXACT), 3);
        }
        for (int mode = UP; mode <= EXACT; mode++) {
            check.same("mode " + mode, x.write(MAX, 0, mode), 21);
        }
        check.same("what was found stays", x.size() + x.scale(), 0);
        check.same("the constants", DecimalPatterns.UP == 0 && DecimalPatterns.DOWN == 1 && DecimalPatterns.CEILING == 2
                && DecimalPatterns.FLOOR == 3 && DecimalPatterns.HALF_UP == 4 && DecimalPatterns.HALF_DOWN == 5
                && DecimalPatterns.HALF_EVEN == 6 && DecimalPatterns.EXACT == 7, true);
    }

    /** Each number is written after every other by one object, also the greatest after the least: nothing of the former stays. */
    private static void oneAfterAnother() {
        long[][] numbers = {{MIN, 0, UP}, {MIN, 0, DOWN}, {MAX, 18, UP}, {1, 18, EXACT}, {0, 0, EXACT}, {-1, 1, UP}, {99, 0, UP}, {5, 2, DOWN},
            {12, 0, EXACT}, {19, 19, UP}};
        String[] wants = {"-1E21%", "-9E20%", "1E3%", "1E-16%", "0E0%", "-1E1%", "1E4%", "5E0%", "INEXACT", "REFUSED"};
        String[] plainWants = {"-922337203685477580800%", "-922337203685477580800%", "923%", "INEXACT", "0%", "-10%", "9900%", "5%", "1200%", "REFUSED"};
        for (long[] former : numbers) {
            for (int next = 0; next < numbers.length; next++) {
                DecimalPatterns x = Use.withPattern("0E0%");
                x.write(former[0], (int) former[1], (int) former[2]);
                String what = numbers[next][0] + " / 10^" + numbers[next][1] + " after " + former[0] + " / 10^" + former[1];
                check.same(what, Use.written(x, numbers[next][0], (int) numbers[next][1], (int) numbers[next][2]), wants[next]);
                x.write(former[0], (int) former[1], (int) former[2]);
                Use.applied(x, "0%");
                check.same(what, Use.written(x, numbers[next][0], (int) numbers[next][1], (int) numbers[next][2]), plainWants[next]);
            }
        }
    }

    /** A draft of 40 makes texts of up to 79 characters: the longest of each kind are written whole. */
    private static void longTexts() {
        check.sentence("(It may be more than 100.)");
        exactly("0".repeat(38) + ",0", -5, 0, "-" + "0,".repeat(38) + "5");
        exactly("#,#." + "0".repeat(35) + "%", MIN, 0,
                "-9,2,2,3,3,7,2,0,3,6,8,5,4,7,7,5,8,0,8,0,0." + "0".repeat(35) + "%");
        exactly("%#,#." + "0".repeat(35), MIN, 0,
                "-%9,2,2,3,3,7,2,0,3,6,8,5,4,7,7,5,8,0,8,0,0." + "0".repeat(35));
        exactly("%#,#" + "a".repeat(36), MIN, 0, "-%9,2,2,3,3,7,2,0,3,6,8,5,4,7,7,5,8,0,8,0,0" + "a".repeat(36));
        exactly("0." + "0".repeat(36) + "E0", MIN, 0, "-9.223372036854775808" + "0".repeat(18) + "E18");
        DecimalPatterns x = Use.withPattern("#,#." + "0".repeat(35) + "%");
        check.same("the longest", x.write(MIN, 0, EXACT), 79);
        check.same("its length", x.length(), 79);
        check.same("its last", x.at(78), '%');
        check.same("behind it", x.at(79), -1);
        check.same("21 more are typed", Use.typed(x, "1".repeat(21)), true);
        check.same("but not a 101st", x.type('1'), false);
    }

    private static void refused() {
        check.sentence("REFUSED when s is not 0 .. 18 or the mode not 0 .. 7,");
        int[][] wrong = {{-1, 0}, {19, 0}, {-1, 7}, {19, 7}, {0, -1}, {0, 8}, {18, -1}, {18, 8}, {-1, -1}, {19, 8},
            {Integer.MIN_VALUE, 0}, {Integer.MAX_VALUE, 0}, {0, Integer.MIN_VALUE}, {0, Integer.MAX_VALUE}, {256, 0}, {0, 256}};
        for (int[] w : wrong) {
            States.changesNothing(check, "write(0, " + w[0] + ", " + w[1] + ")", x -> x.write(0, w[0], w[1]), -1);
            States.changesNothing(check, "write(MIN, " + w[0] + ", " + w[1] + ")", x -> x.write(MIN, w[0], w[1]), -1);
        }
        check.same("REFUSED", DecimalPatterns.REFUSED, -1);
    }

    private static void inexact() {
        check.sentence("else INEXACT when the writing fails;");
        DecimalPatterns x = Use.withPattern("0.0");
        check.same("too many places", x.write(123, 2, EXACT), -2);
        check.same("the constant", DecimalPatterns.INEXACT, -2);
        check.same("REFUSED goes first: a scale", x.write(123, 19, EXACT), -1);
        check.same("REFUSED goes first: a mode", x.write(123, 2, 8), -1);
        for (int mode = UP; mode < EXACT; mode++) {
            check.same("only EXACT fails", x.write(123, 2, mode), 3);
        }
    }

    private static void nothingChanges() {
        check.sentence("nothing changes then.");
        States.changesNothing(check, "write INEXACT", x -> x.write(123456789, 18, EXACT), -2);
        States.changesNothing(check, "write INEXACT", x -> x.write(-123456789, 10, EXACT), -2);
        DecimalPatterns x = Use.withPattern("0.0");
        x.write(-15, 1, EXACT);
        check.same("INEXACT", x.write(123, 2, EXACT), -2);
        check.same("the text stays", Use.text(x), "-1.5");
        check.same("it is still a number's", Use.foundNow(x), "- 15/1");
        check.same("INEXACT", x.write(123, 2, EXACT), -2);
        check.same("what was found stays", x.size() + "/" + x.scale(), "15/1");
    }
}
