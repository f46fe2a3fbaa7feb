/** Promises 5 and 6: symbol and groupFrom. */
public final class SettingsTest {
    private static final Check check = new Check();

    public static void main(String[] args) {
        everySingleSymbol();
        wrongNumbers();
        movedDigits();
        symbolsAreTakenWhenWritten();
        groupFrom();
        check.finish();
    }

    /** Each symbol of a new object set to each code: only a clash or a code out of range is refused. */
    private static void everySingleSymbol() {
        String all = ".,-%E+0123456789";
        for (int k = 0; k <= 4; k++) {
            for (int c = 0; c <= 300; c++) {
                boolean own = c == all.charAt(k);
                boolean free = c >= 32 && c <= 126 && all.indexOf(c) < 0;
                check.same("symbol(" + k + ", " + c + ")", new DecimalPatterns().symbol(k, (char) c), own || free);
            }
        }
        for (int c = 0; c <= 300; c++) {
            boolean free = c >= 32 && c + 9 <= 126;
            for (int i = 0; i < 6; i++) {
                free &= ".,-%E+".charAt(i) < c || ".,-%E+".charAt(i) > c + 9;
            }
            check.same("symbol(5, " + c + ")", new DecimalPatterns().symbol(5, (char) c), free);
        }
        check.same("a code beyond 16 bits of plain text", new DecimalPatterns().symbol(0, (char) 0xFFFF), false);
        check.same("digits that would wrap around", new DecimalPatterns().symbol(5, (char) 0xFFFA), false);
    }

    private static void wrongNumbers() {
        for (int k : new int[] {-1, 6, 7, Integer.MIN_VALUE, Integer.MAX_VALUE}) {
            DecimalPatterns x = Use.withPattern("-%#,#.0");
            check.same("symbol(" + k + ")", x.symbol(k, 'x'), false);
            check.same("nothing changed", Use.written(x, -123, 1, 7), "--%1,2,3,0.0");
        }
    }

    private static void movedDigits() {
        DecimalPatterns x = Use.withPattern("-%#,#.0");
        check.same("a refused symbol", x.symbol(0, '9'), false);
        check.same("a refused ZERO", x.symbol(5, '%'), false);
        check.same("nothing changed", Use.written(x, -123, 1, 7), "--%1,2,3,0.0");
        check.same("ZERO to the last place", x.symbol(5, (char) 117), true);
        check.same("ZERO too far", x.symbol(5, (char) 118), false);
        check.same("a former digit is free", x.symbol(0, '9'), true);
        check.same("a new digit is not", x.symbol(1, '~'), false);
        check.same("the digits from u", Use.written(x, -1239, 1, 7), "--%v,w,x,~,u9u");
        check.same("read in them", Use.foundNow(x), "- 1239/1");
        check.same("the old digits are none", Use.found(x, "--%1,2,3,990"), "none");
        check.same("ZERO over another symbol", x.symbol(5, '0'), false);
        check.same("the symbol away, then ZERO", x.symbol(0, '.') && x.symbol(5, '0'), true);
        check.same("the same again", Use.written(x, -123, 1, 7), "--%1,2,3,0.0");
        check.same("ZERO moved by less than ten", x.symbol(5, ':') && x.symbol(5, ';'), true);
        check.same("PERCENT out of the way", x.symbol(3, 'p'), true);
        check.same("digits that would have the +", x.symbol(5, '"'), false);
        check.same("digits just below the +", x.symbol(5, '!') && x.symbol(5, ';') && x.symbol(3, '%'), true);
        check.same("ZERO that brings a digit onto EXPONENT", x.symbol(5, '<'), false);
        check.same("the digits from ;", Use.written(x, 98, 2, 7), "-%D,C.;");
    }

    private static void symbolsAreTakenWhenWritten() {
        DecimalPatterns x = Use.withPattern("-%'-%'0,0.0;-%'-%'0");
        check.same("before", Use.written(x, 12, 0, 7), "-%-%1,2,0,0.0");
        check.same("six symbols", x.symbol(2, '~') && x.symbol(3, 'p') && x.symbol(0, ';') && x.symbol(1, ' ') && x.symbol(4, '^'), true);
        check.same("what was written stays", Use.text(x), "-%-%1,2,0,0.0");
        check.same("it is no longer a number's", Use.foundNow(x), "none");
        check.same("after", Use.written(x, 12, 0, 7), "~p-%1 2 0 0;0");
        check.same("after", Use.written(x, -12, 0, 7), "~p-%1 2 0 0;0");
        check.same("both signs have this text", Use.foundNow(x), "+ 12/0");
        Use.applied(x, "0E+0");
        check.same("EXPONENT", Use.written(x, -50, 0, 7), "~5^+1");
        check.same("EXPONENT and MINUS", Use.written(x, -5, 2, 7), "~5^~2");
        check.same("read", Use.foundNow(x), "- 5/2");
        Use.applied(x, "0p");
        check.same("a p of the pattern is no PERCENT", Use.written(x, 5, 0, 7), "5p");
    }

    private static void groupFrom() {
        DecimalPatterns x = Use.withPattern("#,##0");
        for (int n = 1; n <= 9; n++) {
            check.same("groupFrom(" + n + ")", x.groupFrom(n), true);
            for (int wrong : new int[] {0, -1, 10, Integer.MIN_VALUE, Integer.MAX_VALUE}) {
                check.same("groupFrom(" + wrong + ")", x.groupFrom(wrong), false);
            }
            String less = "9".repeat(n + 2);
            String enough = "9".repeat(n + 3);
            check.same("L is " + n, Use.written(x, Long.parseLong(less), 0, 7), less);
            String text = Use.written(x, Long.parseLong(enough), 0, 7);
            check.same("L is " + n, text.replace(",", ""), enough);
            check.same("L is " + n, text.substring(text.length() - 4), ",999");
        }
        x.groupFrom(2);
        check.same("L counts in reading", Use.found(x, "1,234"), "none");
        check.same("L counts in reading", Use.found(x, "1234"), "+ 1234/0");
        check.same("L counts in reading", Use.found(x, "12,345"), "+ 12345/0");
        check.same("L counts in reading", Use.found(x, "12345"), "none");
    }
}
