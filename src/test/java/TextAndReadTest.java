/** Promises 8 to 14: type, wipe, length, at, read, size, scale. */
public final class TextAndReadTest {
    private static final Check check = new Check();

    public static void main(String[] args) {
        type();
        wipe();
        lengthAndAt();
        plainTexts();
        groupedTexts();
        exponentTexts();
        percentTexts();
        affixedTexts();
        limitsOfSizes();
        latestRead();
        check.finish();
    }

    private static void type() {
        DecimalPatterns x = new DecimalPatterns();
        for (int c : new int[] {0, 10, 31, 127, 200, 256 + '1', 0xFFFF}) {
            check.same("type " + c, x.type((char) c), false);
        }
        check.same("wrong codes add nothing", x.length(), 0);
        for (int c = 32; c <= 126; c++) {
            check.same("type " + c, x.type((char) c), true);
            check.same("at its place", x.at(c - 32), c);
        }
        check.same("95 and 5 more", Use.typed(x, "abcde"), true);
        check.same("the 101st", x.type('f'), false);
        check.same("it was not added", x.length(), 100);
        check.same("the last is the 100th", x.at(99), 'e');
        x.write(12, 0, 7);
        check.same("type behind what was written", x.type('3') && Use.text(x).equals("123"), true);
    }

    private static void wipe() {
        DecimalPatterns x = new DecimalPatterns();
        x.wipe();
        check.same("wipe of nothing", x.length(), 0);
        Use.typed(x, "7".repeat(100));
        x.wipe();
        check.same("wipe", x.length(), 0);
        check.same("wipe", x.at(0), -1);
        check.same("room again", x.type('4'), true);
        check.same("only what came later", Use.foundNow(x), "+ 4/0");
        x.wipe();
        check.same("what was found stays", x.size(), 4);
        check.same("an empty text is no number's", Use.foundNow(x), "none");
    }

    private static void lengthAndAt() {
        DecimalPatterns x = Use.withPattern("ab0");
        check.same("length", x.length(), 0);
        x.write(-7, 0, 7);
        check.same("length", x.length(), 4);
        check.same("at(0)", x.at(0), '-');
        check.same("at(3)", x.at(3), '7');
        for (int i : new int[] {-1, 4, 5, 100, 255, 256, Integer.MIN_VALUE, Integer.MAX_VALUE}) {
            check.same("at(" + i + ")", x.at(i), -1);
        }
        x.write(1, 0, 7);
        check.same("a shorter text", x.at(3), -1);
    }

    private static void reads(String pattern, String text, String want) {
        DecimalPatterns x = Use.withPattern(pattern);
        check.same(pattern + " reads " + text, Use.found(x, text), want);
        check.same("the text stays", Use.text(x), text);
    }

    private static void plainTexts() {
        reads("0", "0", "+ 0/0");
        reads("0", "-0", "- 0/0");
        reads("0", "", "none");
        reads("0", "-", "none");
        reads("0", "+1", "none");
        reads("0", "01", "none");
        reads("0", " 1", "none");
        reads("0", "1 ", "none");
        reads("0", "--1", "none");
        reads("0", "1-", "none");
        reads("0", "1.", "none");
        reads("0", "1.0", "none");
        reads("0", "1.5", "none");
        reads("0", "a", "none");
        reads("00", "01", "+ 1/0");
        reads("00", "1", "none");
        reads("0.00#", "1.50", "+ 15/1");
        reads("0.00#", "1.00", "+ 1/0");
        reads("0.00#", "1.500", "none");
        reads("0.00#", "1.505", "+ 1505/3");
        reads("0.00#", "1.5055", "none");
        reads("0.00#", "1.5", "none");
        reads("0.00#", ".50", "none");
        reads("0.00#", "1..50", "none");
        reads("0.00#", "1.5.0", "none");
        reads("#.#", "0", "+ 0/0");
        reads("#.#", ".5", "+ 5/1");
        reads("#.#", "0.5", "none");
        reads("#.#", ".0", "none");
        reads("#.#", ".", "none");
        reads("#.00", ".00", "+ 0/0");
        reads("#.00", "100.00", "+ 100/0");
        reads("#.00", "-.01", "- 1/2");
    }

    private static void groupedTexts() {
        reads("#,##0", "1,234", "+ 1234/0");
        reads("#,##0", "1234", "none");
        reads("#,##0", "12,34", "none");
        reads("#,##0", ",123", "none");
        reads("#,##0", "1,,234", "none");
        reads("#,##0", "1,234,", "none");
        reads("#,##0.0##", "1,234.5", "+ 12345/1");
        reads("#,##0.0####", "1.2,3", "none");
        reads("#,##,##0", "12,34,567", "+ 1234567/0");
        reads("#,##,##0", "1,234,567", "none");
    }

    private static void exponentTexts() {
        reads("0E0", "1E0", "+ 1/0");
        reads("0E0", "1E+0", "none");
        reads("0E0", "1E00", "none");
        reads("0E0", "1E", "none");
        reads("0E0", "1", "none");
        reads("0E0", "E0", "none");
        reads("0E0", "1EE0", "none");
        reads("0E0", "1E0.0", "none");
        reads("0E0", "1E0-", "none");
        reads("0E0", "1E--1", "none");
        reads("0E0", "1E-0", "none");
        reads("0E0", "12E0", "none");
        reads("0E0", "0E0", "+ 0/0");
        reads("0E0", "-0E0", "- 0/0");
        reads("0E0", "0E1", "none");
        reads("0E0", "1E18", "+ 1000000000000000000/0");
        reads("0E0", "9E18", "+ 9000000000000000000/0");
        reads("0E0", "1E19", "none");
        reads("0E0", "1E-18", "+ 1/18");
        reads("0E0", "1E-19", "none");
        reads("0E0", "1E4294967296", "none");
        reads("0E0", "1E" + "9".repeat(98), "none");
        reads("0E0", "0E" + "9".repeat(98), "none");
        reads("0E+00", "1E+03", "+ 1000/0");
        reads("0E+00", "1E03", "none");
        reads("0E+00", "1E-03", "+ 1/3");
        reads("0E+00", "1E+3", "none");
        reads("0E+00", "1E+-3", "none");
        reads("0E" + "0".repeat(38), "1E" + "0".repeat(37) + "2", "+ 100/0");
        reads("##0.##E0", "12.3E3", "+ 12300/0");
        reads("##0.##E0", "1.23E4", "none");
        reads("00.0#E0", "10.0E-19", "+ 1/18");
        reads("0" + "0".repeat(37) + "E0", "1" + "0".repeat(37) + "E-55", "+ 1/18");
        reads("#".repeat(36) + "0E0", "1" + "0".repeat(19) + "E-37", "+ 1/18");
    }

    private static void percentTexts() {
        reads("0%", "50%", "+ 5/1");
        reads("0%", "100%", "+ 1/0");
        reads("0%", "0%", "+ 0/0");
        reads("0%", "1%", "+ 1/2");
        reads("0%", "50", "none");
        reads("0;0%", "-50%", "none");
        reads("0;0%", "50%", "- 50/0");
        reads("0%", "922337203685477580700%", "+ 9223372036854775807/0");
        reads("0%", "922337203685477580800%", "none");
        reads("0%", "-922337203685477580700%", "- 9223372036854775807/0");
        reads("0." + "#".repeat(20) + "%", "0.0000000000000001%", "+ 1/18");
        reads("0." + "#".repeat(20) + "%", "0.00000000000000001%", "none");
        reads("0E0%", "1E-16%", "+ 1/18");
        reads("0E0%", "1E-17%", "none");
        reads("0E0%", "9E20%", "+ 9000000000000000000/0");
    }

    private static void affixedTexts() {
        reads("(0)", "(5)", "+ 5/0");
        reads("(0)", "-(5)", "- 5/0");
        reads("(0)", "(-5)", "none");
        reads("(0)", "(5", "none");
        reads("(0)", "5)", "none");
        reads("(0)", "()", "none");
        reads("0;(0)", "(5)", "- 5/0");
        reads("0;(0)", "-5", "none");
        reads("0;(0)", "(0)", "- 0/0");
        reads("0;0", "5", "+ 5/0");
        reads("0;'1'0", "12", "+ 12/0");
        reads("0;'1'0", "102", "+ 102/0");
        reads("00;'1'0", "105", "+ 105/0");
        reads("00;'0'0", "005", "- 5/0");
        reads("'1'0'1'", "111", "+ 1/0");
        reads("'1'0'1'", "11", "none");
        reads("'1'0'1'", "1011", "none");
        reads("aa0aa", "aaa", "none");
        reads("'-'0", "-5", "+ 5/0");
        reads("'-'0", "--5", "- 5/0");
        reads("0;'5'0", "55", "+ 55/0");
        reads("0.0;'5.'0", "5.5.5", "- 55/1");
        reads("0.0;'5.'0", "5.5", "+ 55/1");
        reads("0.0;'5.'0", "5.5.", "none");
        reads("0.0;'5.'0", "5.5.0", "- 5/0");
    }

    private static void limitsOfSizes() {
        reads("0", "9223372036854775807", "+ 9223372036854775807/0");
        reads("0", "9223372036854775808", "none");
        reads("0", "-9223372036854775807", "- 9223372036854775807/0");
        reads("0", "-9223372036854775808", "none");
        reads("0", "9223372036854775810", "none");
        reads("0", "18446744073709551617", "none");
        reads("0", "1000000000000000000", "+ 1000000000000000000/0");
        reads("0", "10000000000000000000", "none");
        reads("0", "1" + "0".repeat(99), "none");
        reads("0", "9".repeat(100), "none");
        reads("0.0", "9223372036854775807.0", "+ 9223372036854775807/0");
        reads("0.0", "922337203685477580.7", "+ 9223372036854775807/1");
        reads("0.0", "922337203685477580.8", "none");
        reads("0.0", "9223372036854775807.1", "none");
        reads("0." + "0".repeat(38), "0." + "0".repeat(17) + "1" + "0".repeat(20), "+ 1/18");
        reads("0." + "0".repeat(38), "0." + "0".repeat(18) + "1" + "0".repeat(19), "none");
        reads("0." + "#".repeat(18), "9.223372036854775807", "+ 9223372036854775807/18");
        reads("0." + "#".repeat(18), "9.223372036854775808", "none");
        reads("0".repeat(40), "0".repeat(39) + "5", "+ 5/0");
        DecimalPatterns x = new DecimalPatterns();
        x.write(Long.MIN_VALUE, 0, 7);
        check.same("what write(MIN) wrote is beyond the sizes", Use.foundNow(x), "none");
        x.write(Long.MAX_VALUE, 0, 7);
        check.same("what write(MAX) wrote is not", Use.foundNow(x), "+ 9223372036854775807/0");
    }

    private static void latestRead() {
        DecimalPatterns x = Use.withPattern("0.0#");
        check.same("before any read", x.size() + "/" + x.scale(), "0/0");
        check.same("found", Use.found(x, "-1.25"), "- 125/2");
        x.write(3, 0, 7);
        check.same("write leaves it", x.size() + "/" + x.scale(), "125/2");
        x.wipe();
        Use.applied(x, "0");
        x.symbol(5, 'a');
        check.same("wipe, apply and symbol leave it", x.size() + "/" + x.scale(), "125/2");
        check.same("a read that finds none", x.read(), 0);
        check.same("takes it away", x.size() + "/" + x.scale(), "0/0");
        check.same("found", Use.found(x, "bcd"), "+ 123/0");
        check.same("a text that fails late", Use.found(x, "bcd."), "none");
    }
}
