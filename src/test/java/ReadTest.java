/** Promises 12 to 14 (read, size, scale), and what the document's terms say of reading. */
public final class ReadTest {
    private static final Check check = new Check();
    private static final int EXACT = 7;

    public static void main(String[] args) {
        readsWhatWasWritten();
        takesOnlyWhatWouldBeWritten();
        readAnswers();
        textStays();
        justThisText();
        justThisGroupedText();
        justThisExponent();
        justTheseAffixes();
        percentTexts();
        sizes();
        sizesWithExponent();
        sizesWithPercent();
        leastScale();
        plusGoesFirst();
        oneAfterAnother();
        sizeOfLatest();
        noSize();
        scaleOfLatest();
        noScale();
        check.finish();
    }

    private static void reads(String pattern, String text, String want) {
        DecimalPatterns x = Use.withPattern(pattern);
        check.same(pattern + " reads " + text, Use.found(x, text), want);
    }

    private static void none(String pattern, String... texts) {
        for (String text : texts) {
            reads(pattern, text, "none");
        }
    }

    private static final String[] SOME_PATTERNS = {"0", "#,##0.0#", "(0.00);[0]", "#.##%", "00.0#E+00", "##0.##E0", ".###;-.0"};

    private static void readsWhatWasWritten() {
        check.sentence("Writes decimal numbers by patterns, exactly, with eight ways of rounding, and reads such texts back strictly: a text is taken only if it is just what would be written for a number.");
        for (String pattern : SOME_PATTERNS) {
            for (long u : new long[] {0, 5, -5, 1250, -1250, 99995, -99995, 123456, Long.MAX_VALUE}) {
                for (int mode = 0; mode <= EXACT; mode++) {
                    DecimalPatterns x = Use.withPattern(pattern);
                    String text = Use.written(x, u, 3, mode);
                    boolean written = !text.equals("INEXACT");
                    check.same(pattern + " reads " + text, x.read(), !written ? 0 : u < 0 ? -1 : 1);
                    boolean same = x.size() * power(3 - x.scale()) == Math.abs(u);
                    check.same(text + " is just the number, or a rounded one", same || mode != EXACT || !written, true);
                }
            }
        }
    }

    private static long power(int exponent) {
        long power = 1;
        for (int i = 0; i < exponent; i++) {
            power *= 10;
        }
        return power;
    }

    /** Each text with one character changed: where it is taken, the number that was found is written just so. */
    private static void takesOnlyWhatWouldBeWritten() {
        for (String pattern : SOME_PATTERNS) {
            String text = Use.written(Use.withPattern(pattern), -1250, 3, 0);
            for (int place = 0; place < text.length(); place++) {
                for (char c = 32; c <= 126; c++) {
                    String changed = text.substring(0, place) + c + text.substring(place + 1);
                    DecimalPatterns x = Use.withPattern(pattern);
                    Use.typed(x, changed);
                    int sign = x.read();
                    if (sign != 0 && (sign == 1 || x.size() > 0)) {
                        check.same(pattern + " reads " + changed, Use.written(x, sign * x.size(), x.scale(), EXACT), changed);
                    }
                }
            }
        }
    }

    private static void readAnswers() {
        check.sentence("Reads the text by the pattern: 1 when it is that of a number with +, -1 when of one with -, 0 when of none.");
        DecimalPatterns x = Use.withPattern("0.0");
        check.same("no text", x.read(), 0);
        x.write(15, 1, EXACT);
        check.same("+", x.read(), 1);
        x.write(-15, 1, EXACT);
        check.same("-", x.read(), -1);
        x.write(0, 0, EXACT);
        check.same("0 with +", x.read(), 1);
        x.write(-1, 2, 1);
        check.same("0 with -", x.read(), -1);
        x.type('0');
        check.same("none", x.read(), 0);
        x.write(15, 1, EXACT);
        Use.applied(x, "0");
        check.same("by the pattern that is now", x.read(), 0);
        Use.applied(x, "#.##");
        check.same("by the pattern that is now", Use.foundNow(x), "+ 15/1");
        Use.drafted(x, "0");
        check.same("not by the draft", x.read(), 1);
        x.symbol(0, ';');
        check.same("by the symbols that are now", x.read(), 0);
    }

    private static void textStays() {
        check.sentence("(The text stays.)");
        String[] texts = {"", "0", "-12.50", "12.5", "x", "9".repeat(100)};
        for (String text : texts) {
            DecimalPatterns x = Use.withPattern("0.00");
            Use.typed(x, text);
            x.read();
            check.same("the text", Use.text(x), text);
            int again = x.read();
            check.same("read again", x.read(), again);
        }
        DecimalPatterns x = States.make(States.BUSY);
        x.read();
        check.same("all stays", States.portrait(x), States.portrait(States.make(States.BUSY)));
    }

    private static void justThisText() {
        check.sentence("READING a text: the text is that of a number (a sign and a size) if writing the number EXACT gives just this text.");
        reads("0", "0", "+ 0/0");
        reads("0", "-0", "- 0/0");
        none("0", "", "-", "+1", "01", "00", "-01", " 1", "1 ", "--1", "1-", "1.", "1.0", "1.5", ".", "a", "1a", "1E0", "1,0", "%", "1%");
        reads("00", "01", "+ 1/0");
        reads("00", "00", "+ 0/0");
        reads("00", "123", "+ 123/0");
        none("00", "1", "0", "001", "0123");
        reads("0.00#", "1.50", "+ 15/1");
        reads("0.00#", "1.00", "+ 1/0");
        reads("0.00#", "1.505", "+ 1505/3");
        none("0.00#", "1.500", "1.5055", "1.5", "1", "1.", ".50", "1..50", "1.5.0", "1.50.", "1.5 0", "1.5-0");
        reads("#.#", "0", "+ 0/0");
        reads("#.#", ".5", "+ 5/1");
        reads("#.#", "5", "+ 5/0");
        none("#.#", "0.5", ".0", ".", "5.", "5.0", "00", "");
        reads("#.00", ".00", "+ 0/0");
        reads("#.00", "100.00", "+ 100/0");
        reads("#.00", "-.01", "- 1/2");
        none("#.00", "0.00", "0.01", "-", "-.");
    }

    private static void justThisGroupedText() {
        reads("#,##0", "1,234", "+ 1234/0");
        reads("#,##0", "123", "+ 123/0");
        reads("#,##0", "-1,234,567", "- 1234567/0");
        none("#,##0", "1234", "12,34", ",123", "1,,234", "1,234,", "0,123", "-,123", "1,234567", "1234,567", "0,001,234");
        reads("#,##0.0##", "1,234.5", "+ 12345/1");
        none("#,##0.0####", "1.2,3", "1,.2", "1,234.,5", "1,234.567,8");
        reads("#,##,##0", "12,34,567", "+ 1234567/0");
        none("#,##,##0", "1,234,567", "1,2,34,567");
        reads("0,000", "0,001", "+ 1/0");
        none("0,000", "0001", "1", "00,001");
    }

    private static void justThisExponent() {
        reads("0E0", "1E0", "+ 1/0");
        reads("0E0", "1E3", "+ 1000/0");
        reads("0E0", "0E0", "+ 0/0");
        reads("0E0", "-0E0", "- 0/0");
        none("0E0", "1E+0", "1E00", "1E", "1", "E0", "E", "1EE0", "1E0.0", "1E0-", "1E0+", "1E--1", "1E-0", "1E-", "12E0", "0E1", "0E-1", "1,E0",
                "1E,0", "1.0E0", "1.E0", "-E0", "1E0E0", "1-E0", "1+E0", "1E0,", "1e0", "00E0");
        reads("0E+00", "1E+03", "+ 1000/0");
        reads("0E+00", "1E-03", "+ 1/3");
        reads("0E+00", "0E+00", "+ 0/0");
        none("0E+00", "1E03", "1E+3", "1E-3", "1E+-3", "1E-+3", "1E-00", "1E++3", "1E+003", "1E+", "0E-00");
        reads("##0.##E0", "12.3E3", "+ 12300/0");
        reads("##0.##E0", "123E3", "+ 123000/0");
        reads("##0.##E0", "100E-6", "+ 1/4");
        none("##0.##E0", "1.23E4", "1234E0", "1E4", "1E1", "0.1E0", "12.3E1", "12.34E3");
        reads("0E0", "-1E1", "- 10/0");
        reads("0E0", "-1E-1", "- 1/1");
        reads("-0E0", "--1E1", "- 10/0");
        reads("000E0", "500E-2", "+ 5/0");
        none("000E0", "5E0", "005E0", "50E-1", "5000E-3", "000E1");
    }

    private static void justTheseAffixes() {
        reads("(0)", "(5)", "+ 5/0");
        reads("(0)", "-(5)", "- 5/0");
        none("(0)", "(-5)", "(5", "5)", "()", "-()", "(", ")", "5", "((5)", "(5))", "-(5", "(5)-", "[5]", "(5]", "[5)");
        reads("0;(0)", "(5)", "- 5/0");
        reads("0;(0)", "(0)", "- 0/0");
        none("0;(0)", "-5", "(5", "5)", "-(5)", "()");
        reads("0;'1'0", "12", "+ 12/0");
        reads("00;'0'0", "005", "- 5/0");
        reads("'1'0'1'", "111", "+ 1/0");
        none("'1'0'1'", "11", "1", "1011");
        none("aa0aa", "aaa", "aa", "aaaa", "a0a");
        reads("aa0aa", "aa0aa", "+ 0/0");
        reads("'-'0", "-5", "+ 5/0");
        reads("'-'0", "--5", "- 5/0");
        reads("0.0;'5.'0", "5.5.5", "- 55/1");
        reads("0.0;'5.'0", "5.5", "+ 55/1");
        reads("0.0;'5.'0", "5.5.0", "- 5/0");
        none("0.0;'5.'0", "5.5.");
        reads("'" + "7".repeat(37) + "'0", "7".repeat(38), "+ 7/0");
        none("'" + "7".repeat(37) + "'0", "7".repeat(37), "7");
        none("0;" + "a".repeat(37) + "0", "a", "a".repeat(37), "a".repeat(38));
    }

    private static void percentTexts() {
        reads("0%", "50%", "+ 5/1");
        reads("0%", "100%", "+ 1/0");
        reads("0%", "0%", "+ 0/0");
        reads("0%", "-1%", "- 1/2");
        reads("0'%'", "50%", "+ 50/0");
        reads("0;0%", "50%", "- 50/0");
        reads("0%;0", "50", "- 5/1");
        none("0%", "50", "%", "%50", "50%%", "0.5%");
        none("0;0%", "-50%", "-50");
    }

    private static void sizes() {
        check.sentence("Sizes are m / 10^s with m from 0 to 2^63 - 1 and s from 0 to 18,");
        reads("0", "9223372036854775806", "+ 9223372036854775806/0");
        reads("0", "9223372036854775807", "+ 9223372036854775807/0");
        reads("0", "-9223372036854775807", "- 9223372036854775807/0");
        reads("0", "1000000000000000000", "+ 1000000000000000000/0");
        reads("0", "9223372036854775800", "+ 9223372036854775800/0");
        none("0", "9223372036854775808", "-9223372036854775808", "9223372036854775809", "9223372036854775810", "18446744073709551616",
                "18446744073709551617", "92233720368547758070", "10000000000000000000", "1" + "0".repeat(99), "9".repeat(100));
        reads("0.0", "9223372036854775807.0", "+ 9223372036854775807/0");
        reads("0.0", "922337203685477580.7", "+ 9223372036854775807/1");
        reads("0.0", "922337203685477581.0", "+ 922337203685477581/0");
        none("0.0", "922337203685477580.8", "9223372036854775807.1", "9223372036854775808.0", "1000000000000000000.5");
        reads("0." + "0".repeat(38), "0." + "0".repeat(17) + "1" + "0".repeat(20), "+ 1/18");
        none("0." + "0".repeat(38), "0." + "0".repeat(18) + "1" + "0".repeat(19), "0." + "0".repeat(37) + "1");
        reads("0." + "#".repeat(18), "9.223372036854775807", "+ 9223372036854775807/18");
        none("0." + "#".repeat(18), "9.223372036854775808", "10.000000000000000001");
        reads("0." + "#".repeat(19), "0.000000000000000001", "+ 1/18");
        none("0." + "#".repeat(19), "0.0000000000000000001");
        reads("0".repeat(40), "0".repeat(39) + "5", "+ 5/0");
        reads("0".repeat(40), "0".repeat(40), "+ 0/0");
        writtenAtTheEdge();
    }

    private static void writtenAtTheEdge() {
        DecimalPatterns x = new DecimalPatterns();
        x.write(Long.MIN_VALUE, 0, EXACT);
        check.same("what write(-2^63) wrote is beyond the sizes", Use.foundNow(x), "none");
        x.write(-Long.MAX_VALUE, 0, EXACT);
        check.same("what write(-2^63 + 1) wrote is not", Use.foundNow(x), "- 9223372036854775807/0");
        x.write(Long.MAX_VALUE, 0, EXACT);
        check.same("what write(2^63 - 1) wrote is not", Use.foundNow(x), "+ 9223372036854775807/0");
        x.write(Long.MAX_VALUE, 1, 0);
        check.same("rounded, it is another number", Use.foundNow(x), "+ 922337203685477581/0");
    }

    private static void sizesWithExponent() {
        reads("0E0", "1E18", "+ 1000000000000000000/0");
        reads("0E0", "9E18", "+ 9000000000000000000/0");
        reads("0E0", "1E-18", "+ 1/18");
        none("0E0", "1E19", "9E19", "1E-19", "1E99", "1E-99", "1E100", "1E1000", "1E2147483648", "1E-2147483648", "1E4294967296",
                "1E4294967299", "1E18446744073709551616", "1E" + "9".repeat(98), "1E-" + "9".repeat(97), "0E" + "9".repeat(98));
        reads("0." + "#".repeat(18) + "E0", "9.223372036854775807E18", "+ 9223372036854775807/0");
        reads("0." + "#".repeat(18) + "E0", "9.223372036854775807E0", "+ 9223372036854775807/18");
        none("0." + "#".repeat(18) + "E0", "9.223372036854775808E18", "9.223372036854775807E19", "9.223372036854775807E-1");
        reads("0E" + "0".repeat(38), "1E" + "0".repeat(37) + "2", "+ 100/0");
        reads("00.0#E0", "10.0E-19", "+ 1/18");
        none("00.0#E0", "10.0E-20", "10.1E-19");
        reads("0".repeat(38) + "E0", "1" + "0".repeat(37) + "E-55", "+ 1/18");
        none("0".repeat(38) + "E0", "1" + "0".repeat(37) + "E-56", "1" + "0".repeat(36) + "1E-37");
        reads("#".repeat(36) + "0E0", "1" + "0".repeat(19) + "E-37", "+ 1/18");
        none("#".repeat(36) + "0E0", "1" + "0".repeat(18) + "E-37", "1" + "0".repeat(19) + "E0");
    }

    private static void sizesWithPercent() {
        reads("0%", "922337203685477580700%", "+ 9223372036854775807/0");
        reads("0%", "-922337203685477580700%", "- 9223372036854775807/0");
        none("0%", "922337203685477580701%", "922337203685477580800%", "-922337203685477580800%", "1000000000000000000000%");
        reads("0%", "92233720368547758%", "+ 92233720368547758/2");
        reads("0%", "9223372036854775807%", "+ 9223372036854775807/2");
        none("0%", "9223372036854775808%");
        reads("0." + "#".repeat(20) + "%", "0.0000000000000001%", "+ 1/18");
        none("0." + "#".repeat(20) + "%", "0.00000000000000001%", "0.00000000000000011%");
        reads("0E0%", "1E-16%", "+ 1/18");
        reads("0E0%", "9E20%", "+ 9000000000000000000/0");
        none("0E0%", "1E-17%", "1E21%");
    }

    private static void leastScale() {
        check.sentence("and the least s for which that is possible.");
        reads("0.00", "0.00", "+ 0/0");
        reads("0.00", "-0.00", "- 0/0");
        reads("0.00", "1.00", "+ 1/0");
        reads("0.00", "1.10", "+ 11/1");
        reads("0.00", "1.11", "+ 111/2");
        reads("0.00", "10.00", "+ 10/0");
        reads("0.00", "0.10", "+ 1/1");
        reads("0." + "0".repeat(18), "1." + "0".repeat(18), "+ 1/0");
        reads("0." + "0".repeat(18), "10." + "0".repeat(18), "+ 10/0");
        reads("0." + "0".repeat(18), "9223372036854775807." + "0".repeat(18), "+ 9223372036854775807/0");
        reads("0." + "0".repeat(18), "12345678901234567.80" + "0".repeat(16), "+ 123456789012345678/1");
        reads("0%", "0%", "+ 0/0");
        reads("0%", "10%", "+ 1/1");
        reads("0%", "1000%", "+ 10/0");
        reads("0.0%", "100.0%", "+ 1/0");
        reads("0.0E0", "1.0E-1", "+ 1/1");
        reads("0.0E0", "1.5E-1", "+ 15/2");
        reads("0.0E0", "1.5E1", "+ 15/0");
        reads("0.0E0", "1.5E2", "+ 150/0");
        reads("000E0", "100E-3", "+ 1/1");
    }

    private static void plusGoesFirst() {
        check.sentence("If a number with + and one with - have this text, it is that with +.");
        reads("0;0", "5", "+ 5/0");
        reads("0;0", "0", "+ 0/0");
        reads("a0b;a0b", "a5b", "+ 5/0");
        reads("0;'1'0", "12", "+ 12/0");
        reads("0;'1'0", "10", "+ 10/0");
        reads("0;'5'0", "55", "+ 55/0");
        reads("0;'1'0", "102", "+ 102/0");
        reads("00;'1'0", "105", "+ 105/0");
        reads("0;0'0'", "50", "+ 50/0");
        reads("0;0'0'", "00", "- 0/0");
        reads("00;'0'0", "005", "- 5/0");
        reads("0%;0'%'", "50%", "+ 5/1");
        reads("0;-0", "-5", "- 5/0");
        reads("-0;0", "-5", "+ 5/0");
        reads("-0;0", "5", "- 5/0");
        reads("0;'-'0", "-5", "- 5/0");
        // The number with + would be beyond the sizes, so only the one with - has the text.
        reads("0;'9'0", "99223372036854775807", "- 9223372036854775807/0");
        reads("0;'9'0", "9223372036854775807", "+ 9223372036854775807/0");
    }

    /** Each text is read after every other by one object: nothing of the former stays. */
    private static void oneAfterAnother() {
        String[] texts = {"1.5E0", "-1.5E-2", "1.0E12", "-1.0E3", "0.0E0", "-0.0E0", "x", "1.5E", "-1.55E-3", "1E1", ".", "", "9.9E18", "9.0E18"};
        String[] wants = {"+ 15/1", "- 15/3", "+ 1000000000000/0", "- 1000/0", "+ 0/0", "- 0/0", "none", "none", "none", "none", "none", "none",
            "none", "+ 9000000000000000000/0"};
        for (String former : texts) {
            for (int next = 0; next < texts.length; next++) {
                DecimalPatterns x = Use.withPattern("0.0E0");
                Use.found(x, former);
                check.same(texts[next] + " after " + former, Use.found(x, texts[next]), wants[next]);
                check.same(texts[next] + " again", Use.foundNow(x), wants[next]);
            }
        }
    }

    private static void sizeOfLatest() {
        check.sentence("m of the number that the latest read() found;");
        DecimalPatterns x = Use.withPattern("0.0#");
        Use.found(x, "-1.25");
        check.same("size", x.size(), 125);
        Use.found(x, "7.0");
        check.same("the size is that of the latest", x.size(), 7);
        Use.found(x, "92233720368547758.07");
        check.same("the greatest", x.size(), Long.MAX_VALUE);
        staysFound(x, "9223372036854775807/2");
        check.same("asked twice", x.size(), x.size());
    }

    /** No call but read changes what was found. */
    private static void staysFound(DecimalPatterns x, String want) {
        x.write(3, 0, EXACT);
        check.same("write leaves it", x.size() + "/" + x.scale(), want);
        x.write(3, 19, EXACT);
        x.write(3, 3, EXACT);
        check.same("a write that fails leaves it", x.size() + "/" + x.scale(), want);
        x.wipe();
        x.type('5');
        check.same("wipe and type leave it", x.size() + "/" + x.scale(), want);
        Use.drafted(x, "00");
        x.scrap();
        x.apply();
        Use.applied(x, "0");
        check.same("draft, scrap and apply leave it", x.size() + "/" + x.scale(), want);
        x.symbol(5, 'a');
        x.symbol(5, '0');
        x.groupFrom(3);
        check.same("symbol and groupFrom leave it", x.size() + "/" + x.scale(), want);
        Use.applied(x, "0.0#");
    }

    private static void noSize() {
        check.sentence("0 when it found none, or there was none.");
        check.same("there was none", new DecimalPatterns().size(), 0);
        DecimalPatterns x = new DecimalPatterns();
        x.write(12, 0, EXACT);
        check.same("only written", x.size(), 0);
        x.read();
        check.same("found", x.size(), 12);
        x.type('.');
        check.same("not yet read", x.size(), 12);
        x.read();
        check.same("it found none", x.size(), 0);
        for (String text : new String[] {"", "12x", "012", "9223372036854775808", "12.", "-"}) {
            check.same("found", Use.found(x, "34"), "+ 34/0");
            check.same("none in " + text, Use.found(x, text), "none");
            check.same("size", x.size(), 0);
        }
    }

    private static void scaleOfLatest() {
        check.sentence("s of that number;");
        DecimalPatterns x = Use.withPattern("0.0" + "#".repeat(17));
        Use.found(x, "-1.25");
        check.same("scale", x.scale(), 2);
        Use.found(x, "7.0");
        check.same("the scale is that of the latest", x.scale(), 0);
        Use.found(x, "0.000000000000000001");
        check.same("the greatest", x.scale(), 18);
        staysFound(x, "1/18");
    }

    private static void noScale() {
        check.sentence("0 likewise.");
        check.same("there was none", new DecimalPatterns().scale(), 0);
        DecimalPatterns x = Use.withPattern("0.0");
        x.write(12, 1, EXACT);
        check.same("only written", x.scale(), 0);
        x.read();
        check.same("found", x.scale(), 1);
        x.type('.');
        check.same("not yet read", x.scale(), 1);
        x.read();
        check.same("it found none", x.scale(), 0);
        for (String text : new String[] {"", "1.2x", "01.2", "1.25", "922337203685477580.8", "1.", "-"}) {
            check.same("found", Use.found(x, "3.4"), "+ 34/1");
            check.same("none in " + text, Use.found(x, text), "none");
            check.same("scale", x.scale(), 0);
        }
    }
}
