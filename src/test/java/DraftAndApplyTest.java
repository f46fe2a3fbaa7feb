/** Promises 2 to 4 (draft, scrap, apply), and what the document's terms say of the draft and of patterns. */
public final class DraftAndApplyTest {
    private static final Check check = new Check();

    public static void main(String[] args) {
        draftAdds();
        draftRefusesCodes();
        draftRefusesBeyondForty();
        scrap();
        theDraft();
        order();
        subs();
        affixesMayBeMissing();
        numbers();
        integers();
        fractions();
        zeros();
        affixCharacters();
        affixSymbols();
        quotes();
        exponentNeedsZero();
        applyTakes();
        applyRefuses();
        applyUnfinished();
        applyAgainAndAgain();
        check.finish();
    }

    private static void takes(String... patterns) {
        for (String pattern : patterns) {
            check.same("apply of " + pattern, Use.applied(new DecimalPatterns(), pattern), 0);
        }
    }

    private static void fault(String draft, int want) {
        check.same("apply of " + draft, Use.applied(new DecimalPatterns(), draft), want);
    }

    private static void draftAdds() {
        check.sentence("Adds a character to the draft;");
        for (char c = 32; c <= 126; c++) {
            DecimalPatterns x = new DecimalPatterns();
            check.same("draft " + (int) c, x.draft(c), true);
            boolean alone = c == '#' || c == '0';
            boolean never = c == ',' || c == ';' || c == 'E' || c >= '1' && c <= '9';
            check.same("apply of " + c, x.apply(), alone ? 0 : never ? 1 : 2);
        }
        DecimalPatterns x = Use.withPattern("abc0");
        check.same("in the order of the calls", Use.written(x, 1, 0, 7), "abc1");
    }

    private static void draftRefusesCodes() {
        check.sentence("false, changing nothing, when c is not 32 .. 126");
        for (int c : new int[] {0, 9, 10, 13, 31, 127, 128, 160, 255, 256 + '0', 0x7FFF, 0x8000 + '0', 0xFFFF}) {
            States.changesNothing(check, "draft " + c, x -> x.draft((char) c) ? 1 : 0, 0);
        }
        for (int c = 0; c <= 0xFFFF; c++) {
            check.same("draft " + c, new DecimalPatterns().draft((char) c), c >= 32 && c <= 126);
        }
    }

    private static void draftRefusesBeyondForty() {
        check.sentence("or there are 40.");
        DecimalPatterns x = new DecimalPatterns();
        check.same("39 characters", Use.drafted(x, "' ~" + "a".repeat(36)), true);
        check.same("a 40th", x.draft('b'), true);
        check.same("a 41st", x.draft('\''), false);
        check.same("the 41st was not added", x.apply(), 41);
        check.same("a 41st after a fault", x.draft('\''), false);
        for (char c : new char[] {' ', '#', '0', '\'', '~'}) {
            States.changesNothing(check, "draft " + c, States.FULL, y -> y.draft(c) ? 1 : 0, 0);
        }
    }

    private static void scrap() {
        check.sentence("Makes the draft empty.");
        DecimalPatterns x = new DecimalPatterns();
        x.scrap();
        check.same("scrap of nothing", x.apply(), 1);
        Use.drafted(x, "0#");
        x.scrap();
        check.same("apply after scrap", x.apply(), 1);
        Use.drafted(x, "00");
        x.scrap();
        check.same("the pattern stays", Use.written(x, 1, 0, 7), "1");
        check.same("40 characters", Use.drafted(x, "a".repeat(40)), true);
        x.scrap();
        check.same("40 characters again", Use.drafted(x, "0".repeat(40)), true);
        check.same("apply of what came later", x.apply(), 0);
        check.same("the text stays", Use.text(x), "1");
    }

    private static void theDraft() {
        check.sentence("THE DRAFT is a list of at most 40 characters (codes 32 .. 126), the places are 1, 2, ...");
        fault("E", 1);
        fault("0E#", 3);
        fault("0".repeat(38) + "#", 39);
        fault("0".repeat(39) + "#", 40);
        takes("0".repeat(40), "#".repeat(40), "' ~'" + "0".repeat(36), "0".repeat(19) + ";" + "0".repeat(20));
        DecimalPatterns x = Use.withPattern("0".repeat(40));
        check.same("all 40 count", Use.written(x, 7, 0, 7), "0".repeat(39) + "7");
        check.same("apply emptied a full draft", Use.drafted(x, "#".repeat(40)), true);
        x = Use.withPattern("'" + "~".repeat(37) + "'0");
        check.same("a prefix of 37", Use.written(x, 7, 0, 7), "~".repeat(37) + "7");
        x = Use.withPattern("0;" + "a".repeat(37) + "#");
        check.same("a second prefix of 37", Use.written(x, -7, 0, 7), "a".repeat(37) + "7");
        x = Use.withPattern("0" + " ".repeat(39));
        check.same("a suffix of 39", Use.written(x, -7, 0, 7), "-7" + " ".repeat(39));
    }

    private static void order() {
        check.sentence("A PATTERN is a draft that is made so, in this order; what may be missing is in brackets here:");
        takes("0", "#", ".0", ".#", "a0.0E+0b;c0.0E+0d", "a0b", "0.0E0", "0E+0", "#,##0.0#");
        fault("", 1);
        fault("0E0.0", 4);
        fault("0E0,0", 4);
        fault("0E0E0", 4);
        fault("0.0,0", 4);
        fault("0a0", 3);
        fault("0a#", 3);
        fault("#a#", 3);
        fault("#a0", 3);
        fault(".#a#", 4);
        fault(".0a0", 4);
        fault("0a.0", 3);
        fault("0a,0", 3);
        fault("0aE0", 3);
        fault("0''0", 4);
    }

    private static void subs() {
        check.sentence("pattern = sub [ ; sub ]");
        takes("0;0", "#;#", ".0;.0", "0E0;0E0", "0E0;#,##0.#", "#.#;0E+0", "';'0;';'0';'");
        fault(";", 1);
        fault(";0", 1);
        fault("a;0", 2);
        fault("0;", 3);
        fault("0;;0", 3);
        fault("0;0;", 4);
        fault("0;0;0", 4);
        fault("0a;0b;0", 6);
        fault("0;0#", 4);
        fault("0;0a#", 5);
        fault("0;,0", 3);
        fault("0.;0", 3);
        fault("0,;0", 3);
        fault("0E;0", 3);
        fault("0E+;0", 4);
    }

    private static void affixesMayBeMissing() {
        check.sentence("sub = [affix] number [affix]");
        takes("a0", "0a", "a0a", "a0;0", "0a;0", "0;a0", "0;0a", "0;a0a");
        fault("a", 2);
        fault("aa", 3);
        fault("0;a", 4);
        fault("a;", 2);
        fault("'a'", 4);
        fault("'a';", 4);
    }

    private static void numbers() {
        check.sentence("number = integer [ . fraction ] [ E [+] zeros ] or . fraction");
        takes("0", "0.0", "0E0", "0E+0", "0.0E0", "0.0E+0", ".0", "#.#", ".#", "0.#E0", "0E0+", "0E+0+");
        fault(".", 2);
        fault("..", 2);
        fault(".a", 2);
        fault(".,0", 2);
        fault(".E0", 2);
        fault(".0E0", 3);
        fault(".#E0", 3);
        fault("0;.0E0", 5);
        fault("0.", 3);
        fault("0.a", 3);
        fault("0.;", 3);
        fault("0.'", 3);
        fault("0.E0", 3);
        fault("0..0", 3);
        fault("0.0.0", 4);
        fault("E0", 1);
        fault("0E", 3);
        fault("0E-0", 3);
        fault("0E'0'", 3);
        fault("0E.0", 3);
        fault("0E+", 4);
        fault("0E++0", 4);
        fault("0E+-0", 4);
        fault("0E+a", 4);
        fault("0E+;", 4);
        fault("0E+.", 4);
    }

    private static void integers() {
        check.sentence("integer = one or more # and 0 without a # behind a 0; between two of them there may be one comma");
        takes("#", "0", "##", "00", "#0", "##00", "#,#", "0,0", "#,0", "#,#,0,0", "##,###,#00,00");
        fault("0#", 2);
        fault("00#", 3);
        fault("#0#", 3);
        fault("0,#", 3);
        fault("#,0#", 4);
        fault("#,0,#", 5);
        fault(",", 1);
        fault(",0", 1);
        fault("a,0", 2);
        fault("0,", 3);
        fault("#,", 3);
        fault("0,,0", 3);
        fault("#,,#", 3);
        fault("0,a", 3);
        fault("0,'a'", 3);
        fault("0,.0", 3);
        fault("0,E0", 3);
    }

    private static void fractions() {
        check.sentence("fraction = one or more 0 and # without a 0 behind a #");
        takes(".0", ".#", ".00", ".##", ".0#", ".00##", "0.0", "#.#", "#.0#", "0." + "0".repeat(38), "." + "#".repeat(39));
        fault("0.", 3);
        fault(".#0", 3);
        fault("0.#0", 4);
        fault("0.0#0", 5);
        fault(".0#0", 4);
        fault(".#,#", 3);
    }

    private static void zeros() {
        check.sentence("zeros = one or more 0");
        takes("0E0", "0E000", "0E+000", "0E" + "0".repeat(38));
        fault("0E", 3);
        fault("0E#", 3);
        fault("0E0#", 4);
        fault("0E+#", 4);
        fault("0E,0", 3);
        for (char c = '1'; c <= '9'; c++) {
            fault("0E" + c, 3);
            fault("0E0" + c, 4);
        }
    }

    private static void affixCharacters() {
        check.sentence("affix = one or more of: a character other than # 0 .. 9 , . E ; and ' that stands for itself,");
        for (char c = 32; c <= 126; c++) {
            if (c == ';' || c == '\'') {
                fault("0a" + c, 4);
            } else if ("#0123456789,.E".indexOf(c) >= 0) {
                fault("0a" + c, 3);
                fault("0;0a" + c, 5);
            } else {
                standsForItself(c);
            }
        }
        for (char c = '1'; c <= '9'; c++) {
            fault(c + "0", 1);
            fault("0" + c, 2);
            fault("0;" + c, 3);
            fault("0;0" + c, 4);
        }
    }

    private static void standsForItself(char c) {
        String number = c == '%' ? "100" : "1";
        DecimalPatterns x = Use.withPattern(c + "0;0" + c);
        check.same("a prefix " + c, Use.written(x, 1, 0, 7), c + number);
        check.same("a second suffix " + c, Use.written(x, -1, 0, 7), number + c);
        x = Use.withPattern("0" + c + c + ";" + c + c + "0");
        check.same("a suffix " + c + c, Use.written(x, 1, 0, 7), number + c + c);
        check.same("a second prefix " + c + c, Use.written(x, -1, 0, 7), "" + c + c + number);
    }

    private static void affixSymbols() {
        check.sentence("but - stands for the MINUS and % for the PERCENT symbol;");
        DecimalPatterns x = Use.withPattern("-%a0%-;%-b0-%");
        check.same("at first", Use.written(x, 1, 2, 7), "-%a1%-");
        check.same("at first", Use.written(x, -1, 2, 7), "%-b1-%");
        check.same("changed", x.symbol(2, 'M') && x.symbol(3, 'P'), true);
        check.same("changed", Use.written(x, 1, 2, 7), "MPa1PM");
        check.same("changed", Use.written(x, -1, 2, 7), "PMb1MP");
        Use.applied(x, "MP0;PM0");
        check.same("the characters M and P stand for themselves", Use.written(x, 1, 0, 7), "MP1");
        check.same("symbols that go back", x.symbol(2, '-') && x.symbol(3, '%'), true);
        check.same("M and P still stand for themselves", Use.written(x, 1, 0, 7), "MP1");
        check.same("M and P still stand for themselves", Use.written(x, -1, 0, 7), "PM1");
    }

    private static void quotes() {
        check.sentence("' and any characters other than ', and ' again: these stand for themselves (also - and %), and for one ' if there are none");
        for (char c = 32; c <= 126; c++) {
            if (c != '\'') {
                quoted("'" + c + "'0'" + c + c + "'", c + "1" + c + c);
            }
        }
        quoted("''0", "'1");
        quoted("0''", "1'");
        quoted("''''0", "''1");
        quoted("''''''0", "'''1");
        quoted("'a''b'0", "ab1");
        quoted("'a'''0", "a'1");
        quoted("'''a'0", "'a1");
        quoted("'a'b'c'0'd'e'f'", "abc1def");
        quoted("'#,##0.0E+0;'0", "#,##0.0E+0;1");
        DecimalPatterns x = Use.withPattern("-'-%'0;%'%-'0''");
        check.same("symbols out of the way", x.symbol(2, 'M') && x.symbol(3, 'P'), true);
        check.same("- and % between quotes", Use.written(x, 1, 0, 7), "M-%1");
        check.same("- and % between quotes", Use.written(x, -1, 0, 7), "P%-1'");
        fault("'", 2);
        fault("''", 3);
        fault("'''", 4);
        fault("'0", 3);
        fault("0'", 3);
        fault("0'''", 5);
        fault("0''''x'y", 9);
        fault("0;'a", 5);
        fault("0;0'a;", 7);
        fault("'a'0'b'1", 8);
    }

    private static void quoted(String pattern, String want) {
        check.same(pattern, Use.written(Use.withPattern(pattern), 1, 0, 7), want);
    }

    private static void exponentNeedsZero() {
        check.sentence("Where there is an E, the integer has at least one 0 and no comma.");
        takes("0E0", "#0E0", "#########0E0", "#0.#E0", "#;0E0", "#,0;0E0", "0E0;#,0");
        fault("#E0", 2);
        fault("##E0", 3);
        fault("#.0E0", 4);
        fault("##.00E0", 6);
        fault("#.#E0", 4);
        fault("0,0E0", 4);
        fault("#,0E0", 4);
        fault("#,00.0E0", 7);
        fault("0;#E0", 4);
        fault("0;#.0E0", 6);
        fault("0;0,0E0", 6);
        fault("0,0;#E0", 6);
    }

    private static void applyTakes() {
        check.sentence("If the draft is a pattern it becomes the pattern, the draft becomes empty, and the answer is 0.");
        String[] patterns = {"#", ".0#", "#,##0.00", "#0.#E+000", "-0;0-", "'E;#,.'0;';'0", "0;0%", "0/:<=>?@!\"$&()*", "0".repeat(40)};
        for (String pattern : patterns) {
            DecimalPatterns x = States.make(States.BUSY);
            check.same("apply of " + pattern, Use.applied(x, pattern), 0);
            check.same("the draft is empty after " + pattern, x.apply(), 1);
            Oracle oracle = new Oracle(pattern);
            oracle.symbols[1] = '_';
            oracle.groupLead = 2;
            check.same("the pattern is " + pattern, Use.written(x, -12345, 0, 7), oracle.written(true, java.math.BigDecimal.valueOf(12345), 7));
        }
        DecimalPatterns x = States.make(States.BUSY);
        check.same("apply leaves the rest", Use.applied(x, "0,0.0"), 0);
        check.same("the text", Use.text(x), "[1234.5]");
        check.same("what was found", x.size() + "/" + x.scale(), "12345/3");
        check.same("L", Use.written(x, 11, 0, 7), "11.0");
        check.same("symbols", Use.written(x, 111, 0, 7), "1_1_1.0");
    }

    private static void applyRefuses() {
        check.sentence("Else nothing changes, and the answer is the least place so that no pattern (of any length) begins with the characters up to that place;");
        States.changesNothing(check, "apply", States.NEW, x -> x.apply(), 1);
        States.changesNothing(check, "apply", States.BUSY, x -> x.apply(), 9);
        String[] drafts = {"", "00;(", "a00.00b;c0d;", "0E0#", "'", "0,0E0", "1", "<#,##0.0%>;[0];", "0".repeat(39) + "#"};
        for (String draft : drafts) {
            DecimalPatterns once = States.make(States.MOVED);
            DecimalPatterns never = States.make(States.MOVED);
            check.same("apply of " + draft, Use.applied(once, draft), Oracle.fault(draft));
            check.same("the draft " + draft + " stays", once.apply(), Oracle.fault(draft));
            never.scrap();
            Use.drafted(never, draft);
            check.same("all after " + draft, States.portrait(once), States.portrait(never));
        }
        // The least place, though there are faults further on.
        fault("0##", 2);
        fault("1,.", 1);
        fault("0.0a0;;", 5);
        fault("0,,;;", 3);
        fault("0;;1", 3);
    }

    private static void applyUnfinished() {
        check.sentence("if there is no such place, the number of characters of the draft and 1.");
        fault("", 1);
        fault("a", 2);
        fault("00;(", 5);
        fault("0.0#;-", 7);
        // A longer pattern begins so, though no draft has room for it.
        fault("a".repeat(40), 41);
        fault("'" + "0".repeat(39), 41);
        fault("0" + ",0".repeat(19) + ",", 41);
        fault("0".repeat(39) + ".", 41);
        fault("0".repeat(39) + "E", 41);
        fault("0".repeat(38) + "E+", 41);
        fault("0".repeat(39) + ";", 41);
        fault("0;" + "a".repeat(38), 41);
        takes("0".repeat(37) + "'a'");
        fault("0".repeat(38) + "'a", 41);
    }

    /** Each pattern follows every other on one object, also behind one that failed: nothing of the former stays. */
    private static void applyAgainAndAgain() {
        String[] patterns = {"#,##,#", "a%#00.0#E+000b", "0.###E0", "-.0##;'x'0'y'", "#,0"};
        String[] wants = {"-1,23,4", "-a%123.4E+003b", "-1.234E3", "x1234.0y", "-1,2,3,4"};
        for (String former : patterns) {
            for (int next = 0; next < patterns.length; next++) {
                for (String ending : new String[] {";;", ";'", "''a'b", "1", ";%#,##0,", ";0E+"}) {
                    DecimalPatterns x = Use.withPattern(former);
                    becomes(x, patterns[next], wants[next]);
                    becomes(x, "0", "-1234");
                    becomes(x, patterns[next], wants[next]);
                    check.same("a fault", Use.applied(x, former + ending) > 0, true);
                    becomes(x, "0", "-1234");
                    check.same("a fault", Use.applied(x, former + ending) > 0, true);
                    becomes(x, patterns[next], wants[next]);
                }
            }
        }
    }

    private static void becomes(DecimalPatterns x, String pattern, String want) {
        check.same("apply of " + pattern + " after others", Use.applied(x, pattern), 0);
        check.same(pattern + " after others", Use.written(x, -1234, 0, 7), want);
    }
}
