/** Promises 5 and 6 (symbol, groupFrom), and what the document's terms say of the symbols. */
public final class SettingsTest {
    private static final Check check = new Check();
    private static final String AT_FIRST = ".,-%E0";

    public static void main(String[] args) {
        symbolsAtFirst();
        tenDigits();
        alwaysDifferent();
        symbolBecomes();
        writtenStays();
        wrongNumbers();
        clashes();
        codesOutOfRange();
        groupFromBecomes();
        groupFromRefuses();
        check.finish();
    }

    private static void symbolsAtFirst() {
        check.sentence("SYMBOLS: 0 DECIMAL (at first .), 1 GROUP (,), 2 MINUS (-), 3 PERCENT (%), 4 EXPONENT (E), 5 ZERO (0).");
        DecimalPatterns x = Use.withPattern("%0,0.0");
        check.same("at first", Use.written(x, -12345678, 2, 7), "-%1,2,3,4,5,6,7,8.0");
        Use.applied(x, "0E0");
        check.same("at first", Use.written(x, -9, 1, 7), "-9E-1");
        String[] wants = {"-%1,2,3,0;0", "-%1;2;3;0.0", ";%1,2,3,0.0", "-;1,2,3,0.0", "-%1,2,3,0.0", "-%<,=,>,;.;"};
        for (int k = 0; k <= 5; k++) {
            x = Use.withPattern("%0,0.0");
            check.same("symbol " + k, x.symbol(k, ';'), true);
            check.same("symbol " + k + " is ;", Use.written(x, -123, 1, 7), wants[k]);
        }
        x = Use.withPattern("0E0");
        check.same("symbol 4", x.symbol(4, ';'), true);
        check.same("symbol 4 is ;", Use.written(x, -1, 1, 7), "-1;-1");
    }

    private static void tenDigits() {
        check.sentence("The DIGITS are the ten characters from ZERO on.");
        for (char zero : new char[] {' ', '!', ':', 'F', 'O', 'a', 'u'}) {
            DecimalPatterns x = new DecimalPatterns();
            if (zero == ' ' || zero == '!') {
                x.symbol(3, '|');
            }
            check.same("ZERO is " + zero, x.symbol(5, zero), true);
            StringBuilder due = new StringBuilder();
            for (int digit : new int[] {1, 2, 3, 4, 5, 6, 7, 8, 9, 0}) {
                due.append((char) (zero + digit));
            }
            check.same("from " + zero, Use.written(x, 1234567890, 0, 7), due.toString());
            check.same("read from " + zero, Use.foundNow(x), "+ 1234567890/0");
            check.same("the former digits are none", Use.found(x, "7"), "none");
            check.same("one below ZERO is none", Use.found(x, String.valueOf((char) (zero - 1))), "none");
            check.same("one above nine is none", Use.found(x, String.valueOf((char) (zero + 10))), "none");
        }
    }

    private static void alwaysDifferent() {
        check.sentence("The six symbols, the nine other digits and the + are always different from one another, and all of them 32 .. 126.");
        DecimalPatterns x = Use.withPattern("-%0,0.0");
        check.same("the places of two symbols change only over a third", x.symbol(0, ',') || x.symbol(1, '.'), false);
        check.same("over a third", x.symbol(0, '_') && x.symbol(1, '.') && x.symbol(0, ','), true);
        check.same("changed", Use.written(x, 12, 0, 7), "-%1.2.0.0,0");
        check.same("digits over the former ones", x.symbol(5, '1'), true);
        check.same("the former 0 is free, the new 9 is not", x.symbol(0, '0') && !x.symbol(1, ':'), true);
        check.same("the former ZERO is a symbol now", x.symbol(5, '0'), false);
        check.same("each step less than ten", Use.written(x, 19, 0, 7), "-%2.:.1.101");
    }

    private static void symbolBecomes() {
        check.sentence("Symbol k becomes c.");
        for (int k = 0; k <= 5; k++) {
            check.same("the same again", new DecimalPatterns().symbol(k, AT_FIRST.charAt(k)), true);
        }
        DecimalPatterns x = Use.withPattern("-%'-%'0,0.0;-%'-%'0");
        check.same("five symbols", x.symbol(2, '~') && x.symbol(3, 'p') && x.symbol(0, ';') && x.symbol(1, ' ') && x.symbol(4, '^'), true);
        check.same("all at once", Use.written(x, 12, 0, 7), "~p-%1 2 0 0;0");
        check.same("and in the second sub", Use.written(x, -12, 0, 7), "~p-%1 2 0 0;0");
        Use.applied(x, "0E+0");
        check.same("EXPONENT", Use.written(x, -50, 0, 7), "~5^+1");
        check.same("EXPONENT and MINUS", Use.written(x, -5, 2, 7), "~5^~2");
        check.same("read by them", Use.foundNow(x), "- 5/2");
        check.same("the former ones are none", Use.found(x, "-5E-2"), "none");
        x = Use.withPattern("0.0");
        check.same("the least code", x.symbol(0, ' '), true);
        check.same("the least code", Use.written(x, 15, 1, 7), "1 5");
        check.same("the greatest code", x.symbol(0, '~'), true);
        check.same("the greatest code", Use.written(x, 15, 1, 7), "1~5");
        check.same("read by it", Use.foundNow(x), "+ 15/1");
    }

    private static void writtenStays() {
        check.sentence("(What was written stays as it is.)");
        DecimalPatterns x = Use.withPattern("-%0,0.0");
        x.write(-12, 0, 7);
        for (int k = 0; k <= 4; k++) {
            check.same("symbol " + k, x.symbol(k, "abcde".charAt(k)), true);
            check.same("the text", Use.text(x), "--%1,2,0,0.0");
        }
        check.same("ZERO", x.symbol(5, 'A'), true);
        check.same("the text", Use.text(x), "--%1,2,0,0.0");
        check.same("it is no longer a number's", Use.foundNow(x), "none");
    }

    private static void wrongNumbers() {
        check.sentence("False, changing nothing, when k is not 0 .. 5");
        for (int k : new int[] {-1, 6, 7, 16, 256, Integer.MIN_VALUE, Integer.MAX_VALUE}) {
            States.changesNothing(check, "symbol " + k, x -> x.symbol(k, '?') ? 1 : 0, 0);
        }
    }

    /** Each symbol of a new object set to each code: only a clash or a code out of range is refused. */
    private static void clashes() {
        check.sentence("or the symbols, digits and the + would not be different");
        String all = ".,-%E+0123456789";
        for (int k = 0; k <= 4; k++) {
            for (char c = 32; c <= 126; c++) {
                boolean free = all.indexOf(c) < 0 || all.indexOf(c) == k;
                clash(k, c, free);
            }
        }
        for (char c = 32; c <= 117; c++) {
            boolean free = true;
            for (int i = 0; i < 6; i++) {
                free &= all.charAt(i) < c || all.charAt(i) > c + 9;
            }
            clash(5, c, free);
        }
        digitsBesideThePlus();
        clashesOfMovedSymbols();
    }

    private static void clash(int k, char c, boolean free) {
        if (free) {
            check.same("symbol(" + k + ", " + c + ")", new DecimalPatterns().symbol(k, c), true);
        } else {
            States.changesNothing(check, "symbol(" + k + ", " + c + ")", States.NEW, x -> x.symbol(k, c) ? 1 : 0, 0);
        }
    }

    private static void digitsBesideThePlus() {
        DecimalPatterns x = new DecimalPatterns();
        check.same("symbols out of the way", x.symbol(0, 'a') && x.symbol(1, 'b') && x.symbol(2, 'c') && x.symbol(3, 'd'), true);
        for (char c = '"'; c <= '+'; c++) {
            check.same("digits that have the +, from " + c, x.symbol(5, c), false);
        }
        check.same("the digits just below the +", x.symbol(5, '!'), true);
        check.same("the digits just above the +", x.symbol(5, ','), true);
        for (int k = 0; k <= 5; k++) {
            check.same("a symbol +", x.symbol(k, '+'), false);
        }
        check.same("the digits", Use.written(x, 90, 0, 7), "5,");
    }

    private static void clashesOfMovedSymbols() {
        for (int k = 0; k <= 4; k++) {
            for (int other = 0; other <= 4; other++) {
                char taken = ";_~!^".charAt(other);
                DecimalPatterns x = new DecimalPatterns();
                check.same("moved", x.symbol(other, taken), true);
                check.same("onto a moved one", x.symbol(k, taken), k == other);
                check.same("onto where it was", x.symbol(k, AT_FIRST.charAt(other)), true);
            }
        }
        for (char c : " ~!^;abcdefghij+".toCharArray()) {
            boolean own = c == ';';
            DecimalPatterns x = States.make(States.MOVED);
            check.same("symbol 0 onto " + c, x.symbol(0, c), own);
        }
        for (char c = 'U'; c <= '^'; c++) {
            char zero = c;
            States.changesNothing(check, "digits over EXPONENT from " + c, States.MOVED, x -> x.symbol(5, zero) ? 1 : 0, 0);
        }
        check.same("digits just below EXPONENT", States.make(States.MOVED).symbol(5, 'T'), true);
        check.same("digits just above EXPONENT", States.make(States.MOVED).symbol(5, '_'), true);
    }

    private static void codesOutOfRange() {
        check.sentence("or not all 32 .. 126.");
        for (int k = 0; k <= 5; k++) {
            int symbol = k;
            for (int c : new int[] {0, 31, 127, 128, 255, 256 + ';', 0x7FFF, 0xFFF6, 0xFFF7, 0xFFFA, 0xFFFF}) {
                States.changesNothing(check, "symbol(" + k + ", " + c + ")", x -> x.symbol(symbol, (char) c) ? 1 : 0, 0);
            }
        }
        check.same("the nine is 126", new DecimalPatterns().symbol(5, (char) 117), true);
        for (int c = 118; c <= 126; c++) {
            char zero = (char) c;
            States.changesNothing(check, "the nine is " + (c + 9), States.NEW, y -> y.symbol(5, zero) ? 1 : 0, 0);
        }
        DecimalPatterns x = new DecimalPatterns();
        check.same("PERCENT away from the least codes", x.symbol(3, '~'), true);
        for (int c = 22; c <= 31; c++) {
            check.same("the zero is " + c, x.symbol(5, (char) c), false);
        }
        check.same("the digits stay", Use.written(x, 90, 0, 7), "90");
        check.same("the zero is 32", x.symbol(5, ' '), true);
        for (int c = 127; c <= 0xFFFF; c++) {
            check.same("DECIMAL " + c, new DecimalPatterns().symbol(0, (char) c), false);
        }
    }

    private static void groupFromBecomes() {
        check.sentence("L becomes n;");
        DecimalPatterns x = Use.withPattern("#,##0");
        for (int n = 1; n <= 9; n++) {
            check.same("groupFrom(" + n + ")", x.groupFrom(n), true);
            String less = "9".repeat(n + 2);
            String enough = "9".repeat(n + 3);
            check.same("one digit too few for L = " + n, Use.written(x, Long.parseLong(less), 0, 7), less);
            String text = Use.written(x, Long.parseLong(enough), 0, 7);
            check.same("just enough for L = " + n, text.replace(",", ""), enough);
            check.same("just enough for L = " + n, text.substring(text.length() - 4), ",999");
        }
        check.same("back to 2", x.groupFrom(2), true);
        check.same("L counts in reading", Use.found(x, "1,234"), "none");
        check.same("L counts in reading", Use.found(x, "1234"), "+ 1234/0");
        check.same("L counts in reading", Use.found(x, "12,345"), "+ 12345/0");
        check.same("L counts in reading", Use.found(x, "12345"), "none");
    }

    private static void groupFromRefuses() {
        check.sentence("false, changing nothing, when n is not 1 .. 9.");
        for (int n : new int[] {0, -1, -9, 10, 11, 257, Integer.MIN_VALUE, Integer.MAX_VALUE}) {
            States.changesNothing(check, "groupFrom " + n, x -> x.groupFrom(n) ? 1 : 0, 0);
        }
    }
}
