/** Promise 7: write. */
public final class WriteTest {
    private static final Check check = new Check();
    private static final long MAX = Long.MAX_VALUE, MIN = Long.MIN_VALUE;

    public static void main(String[] args) {
        modes();
        modesBySignificantDigits();
        digits();
        groups();
        affixes();
        percent();
        exponents();
        refusals();
        longTexts();
        check.finish();
    }

    private static void writes(String pattern, long u, int s, int mode, String want) {
        DecimalPatterns x = Use.withPattern(pattern);
        check.same(pattern + " of " + u + " / 10^" + s + " in mode " + mode, Use.written(x, u, s, mode), want);
    }

    /** One row for each number: what comes of it in the eight modes. */
    private static void inAllModes(String pattern, long u, int s, String... wants) {
        for (int mode = 0; mode <= 7; mode++) {
            writes(pattern, u, s, mode, wants[mode]);
        }
    }

    private static void modes() {
        inAllModes("0", 55, 1, "6", "5", "6", "5", "6", "5", "6", "INEXACT");
        inAllModes("0", 25, 1, "3", "2", "3", "2", "3", "2", "2", "INEXACT");
        inAllModes("0", 16, 1, "2", "1", "2", "1", "2", "2", "2", "INEXACT");
        inAllModes("0", 11, 1, "2", "1", "2", "1", "1", "1", "1", "INEXACT");
        inAllModes("0", 10, 1, "1", "1", "1", "1", "1", "1", "1", "1");
        inAllModes("0", -11, 1, "-2", "-1", "-1", "-2", "-1", "-1", "-1", "INEXACT");
        inAllModes("0", -25, 1, "-3", "-2", "-2", "-3", "-3", "-2", "-2", "INEXACT");
        inAllModes("0", -55, 1, "-6", "-5", "-5", "-6", "-6", "-5", "-6", "INEXACT");
        inAllModes("0", -5, 1, "-1", "-0", "-0", "-1", "-1", "-0", "-0", "INEXACT");
        inAllModes("0", 2500000000000000001L, 18, "3", "2", "3", "2", "3", "3", "3", "INEXACT");
        inAllModes("0", 2499999999999999999L, 18, "3", "2", "3", "2", "2", "2", "2", "INEXACT");
        inAllModes("0.0", 9995, 3, "10.0", "9.9", "10.0", "9.9", "10.0", "10.0", "10.0", "INEXACT");
        inAllModes("0", 1, 18, "1", "0", "1", "0", "0", "0", "0", "INEXACT");
        inAllModes("0", 0, 18, "0", "0", "0", "0", "0", "0", "0", "0");
        inAllModes("0", MAX, 18, "10", "9", "10", "9", "9", "9", "9", "INEXACT");
        inAllModes("0", MIN, 0, "-9223372036854775808", "-9223372036854775808", "-9223372036854775808", "-9223372036854775808",
                "-9223372036854775808", "-9223372036854775808", "-9223372036854775808", "-9223372036854775808");
    }

    private static void modesBySignificantDigits() {
        inAllModes("0E0", 95, 0, "1E2", "9E1", "1E2", "9E1", "1E2", "9E1", "1E2", "INEXACT");
        inAllModes("0E0", -85, 1, "-9E0", "-8E0", "-8E0", "-9E0", "-9E0", "-8E0", "-8E0", "INEXACT");
        inAllModes("0.0E0", 1, 18, "1.0E-18", "1.0E-18", "1.0E-18", "1.0E-18", "1.0E-18", "1.0E-18", "1.0E-18", "1.0E-18");
        inAllModes("#0.0E0", 99951, 2, "10.0E2", "9.9E2", "10.0E2", "9.9E2", "10.0E2", "10.0E2", "10.0E2", "INEXACT");
        inAllModes("0E0%", MIN, 0, "-1E21%", "-9E20%", "-9E20%", "-1E21%", "-9E20%", "-9E20%", "-9E20%", "INEXACT");
    }

    private static void digits() {
        writes("#", 0, 0, 7, "0");
        writes("#", 7, 0, 7, "7");
        writes("000", 7, 0, 7, "007");
        writes("000", 12345, 0, 7, "12345");
        writes("##00", 7, 0, 7, "07");
        writes("#.#", 0, 0, 7, "0");
        writes("#.0", 0, 0, 7, ".0");
        writes(".#", 0, 0, 7, "0");
        writes(".0", 0, 0, 7, ".0");
        writes(".00#", 12, 1, 7, "1.20");
        writes(".00#", 12345, 4, 6, "1.234");
        writes("0.0##", 1, 0, 7, "1.0");
        writes("0.0##", 12, 2, 7, "0.12");
        writes("0.0##", 1001, 3, 7, "1.001");
        writes("0.0##", 1100, 3, 7, "1.1");
        writes("0." + "0".repeat(38), 1, 18, 7, "0." + "0".repeat(17) + "1" + "0".repeat(20));
        writes("0." + "#".repeat(38), 1, 18, 7, "0." + "0".repeat(17) + "1");
        writes("0.0", MAX, 0, 7, "9223372036854775807.0");
        writes("0.#", MIN, 18, 1, "-9.2");
        writes("#.#", -4, 2, 1, "-0");
        writes("#.0", -4, 2, 1, "-.0");
    }

    private static void groups() {
        writes("#,##0", 999, 0, 7, "999");
        writes("#,##0", 1000, 0, 7, "1,000");
        writes("#,##0", 1234567, 0, 7, "1,234,567");
        writes("#,##0", -123456, 0, 7, "-123,456");
        writes("#,##,##0", 123456789, 0, 7, "12,34,56,789");
        writes("#,##,##0", 1234567, 0, 7, "12,34,567");
        writes("#,###,##,0", 123456789, 0, 7, "12,34,56,78,9");
        writes("#,#", 123, 0, 7, "1,2,3");
        writes("0,000", 1, 0, 7, "0,001");
        writes("000,0", 0, 0, 7, "0,0,0,0");
        writes("0,00,0", 0, 0, 7, "0,00,0");
        writes("#,####.00", 12345, 0, 7, "1,2345.00");
        writes("#,##0.###", 1234567, 3, 7, "1,234.567");
        DecimalPatterns x = Use.withPattern("0,00");
        x.groupFrom(2);
        check.same("zeros in front count for L", Use.written(x, 1, 0, 7), "001");
        check.same("zeros in front count for L", Use.applied(x, "00,00") == 0 ? Use.written(x, 1, 0, 7) : "", "00,01");
        check.same("G2 apart from L", Use.applied(x, "#,#,##") == 0 ? Use.written(x, 12345, 0, 7) : "", "1,2,3,45");
    }

    private static void affixes() {
        writes("a0b", -1, 0, 7, "-a1b");
        writes("a0b;c0d", -1, 0, 7, "c1d");
        writes("a0b;c0d", 1, 0, 7, "a1b");
        writes("a0b;c0d", 0, 0, 7, "a0b");
        writes("a0b;c0d", -1, 1, 1, "c0d");
        writes("a0b;00.00", -1, 0, 7, "1");
        writes("0.0;#,##0", -12345, 1, 7, "1234.5");
        writes("0;-0", -1, 0, 7, "-1");
        writes("-0", -1, 0, 7, "--1");
        writes("0-", -1, 0, 7, "-1-");
        writes("'a-b%'0'#0,.E;'", 1, 0, 7, "a-b%1#0,.E;");
        writes("''0''", 1, 0, 7, "'1'");
        writes("'a''b'0", 1, 0, 7, "ab1");
        writes("'a'''0", 1, 0, 7, "a'1");
        writes("''''0", 1, 0, 7, "''1");
        writes("+0+;-0+", 1, 0, 7, "+1+");
        writes("0E0+", 1, 0, 7, "1E0+");
    }

    private static void percent() {
        writes("0%", 5, 1, 7, "50%");
        writes("%0", 5, 1, 7, "%50");
        writes("%%0%", 5, 1, 7, "%%50%");
        writes("'%'0", 5, 0, 7, "%5");
        writes("0'%'%", 5, 0, 7, "500%%");
        writes("0;0%", 5, 0, 7, "5");
        writes("0;0%", -5, 0, 7, "5%");
        writes("0%;(0)", -5, 0, 7, "(500)");
        writes("0%", MIN, 0, 7, "-922337203685477580800%");
        writes("#,##0%", MAX, 0, 7, "922,337,203,685,477,580,700%");
        writes("0%", 375, 5, 7, "INEXACT");
        writes("0.0E0%", 375, 5, 6, "3.8E-1%");
        writes(".0000000000000000%", 1, 18, 7, ".0000000000000001%");
    }

    private static void exponents() {
        writes("0E0", 0, 0, 7, "0E0");
        writes("000.00E+00", 0, 18, 7, "000.00E+00");
        writes("#00.0#E0", 0, 0, 7, "0.0E0");
        writes("0E0", -1, 18, 7, "-1E-18");
        writes("0.###E0", 12345, 0, 1, "1.234E4");
        writes("0.###E0", 12, 0, 7, "1.2E1");
        writes("0.0##E0", 1, 0, 7, "1.0E0");
        writes("000E0", 5, 0, 7, "500E-2");
        writes("000E0", 12345, 0, 0, "124E2");
        writes("##0.##E0", 12345, 0, 4, "12.3E3");
        writes("##0.##E0", 123456, 0, 4, "123E3");
        writes("##0.##E0", 1234567, 0, 4, "1.23E6");
        writes("##0.##E0", 12345, 5, 4, "123E-3");
        writes("##0.##E0", 12345, 6, 4, "12.3E-3");
        writes("##0.##E0", 1, 3, 7, "1E-3");
        writes("##0.##E0", 1, 4, 7, "100E-6");
        writes("##00.#E0", 12345, 0, 4, "1.23E4");
        writes("##0.00E0", 1, 0, 7, "1.00E0");
        writes("##0E0", 9996, 1, 4, "1E3");
        writes("##0E0", 999, 0, 4, "1E3");
        writes("#0E0", 9, 0, 7, "9E0");
        writes("#0E0", 10, 0, 7, "10E0");
        writes("#0E0", 1, 1, 7, "10E-2");
        writes("0E+0", 10, 0, 7, "1E+1");
        writes("0E+0", 1, 1, 7, "1E-1");
        writes("0E+0", 1, 0, 7, "1E+0");
        writes("0E000", 1, 12, 7, "1E-012");
        writes("0E0", 1000000000000L, 0, 7, "1E12");
        writes("0.0E0", 12345, 0, 7, "INEXACT");
        writes("#".repeat(36) + "0E0", 1, 18, 7, "1" + "0".repeat(19) + "E-37");
        writes("0".repeat(38) + "E0", 1, 18, 7, "1" + "0".repeat(37) + "E-55");
        writes("0." + "0".repeat(35) + "E0", MAX, 0, 7, "9.223372036854775807" + "0".repeat(17) + "E18");
        writes("0E" + "0".repeat(38), 1, 0, 7, "1E" + "0".repeat(38));
    }

    private static void refusals() {
        DecimalPatterns x = Use.withPattern("0.0");
        x.write(-15, 1, 7);
        int[][] wrong = {{-1, 0}, {19, 0}, {0, -1}, {0, 8}, {Integer.MIN_VALUE, 0}, {Integer.MAX_VALUE, 0}, {0, Integer.MIN_VALUE},
            {0, Integer.MAX_VALUE}, {19, 8}, {19, 7}};
        for (int[] w : wrong) {
            check.same("write(1, " + w[0] + ", " + w[1] + ")", x.write(1, w[0], w[1]), -1);
            check.same("the text stays", Use.text(x), "-1.5");
        }
        check.same("INEXACT", x.write(123, 2, 7), -2);
        check.same("the text stays", Use.text(x), "-1.5");
        check.same("what was found stays", Use.foundNow(x) + x.write(123, 2, 7) + x.size() + x.scale(), "- 15/1-2151");
        check.same("a text is replaced, not added to", Use.written(x, 2, 0, 7), "2.0");
        for (int s = 0; s <= 18; s++) {
            check.same("scale " + s, x.write(0, s, 7), 3);
        }
    }

    private static void longTexts() {
        DecimalPatterns x = Use.withPattern("0".repeat(38) + ",0");
        check.same("39 digits in groups", Use.written(x, -5, 0, 7), "-" + "0,".repeat(38) + "5");
        check.same("and read", Use.foundNow(x), "- 5/0");
        x = Use.withPattern("#,#." + "0".repeat(35) + "%");
        check.same("79 characters", x.write(MIN, 0, 7), 79);
        check.same("at the end", x.at(78), '%');
        check.same("behind it", x.at(79), -1);
    }
}
